set_option maxHeartbeats 4000000 in
set_option maxRecDepth 100000 in
theorem c_X6_pairs (l : Launch) (cg : Nat → ClassId) (D : va_G) (ad : Nat → Nat) (st : Nat → Nat → Int) (k mb M : Nat) (how : Int) (hk : k < 60) (hmb : mb < 60) (hM : st 0 22 = M) (hM6 : M < 256) (h17 : 0 ≤ st 17 k ∧ st 17 k ≤ st 14 k ∧ st 14 k ≤ 37500000) (h16 : 0 ≤ st 16 mb ∧ st 16 mb ≤ st 12 mb ∧ st 12 mb ≤ 37500000) (h13 : 0 ≤ st 13 mb ∧ st 13 mb ≤ 60000000) (h15 : 0 ≤ st 15 k ∧ st 15 k ≤ 60000000) : MV l yX6_pairs wsX6_pairs ({ frames := 1, cells := 0, slots := 0, locals := 27 }) D vwCl (TY cg) 26 (celM cg) ad st [.ref (ad 0), .int (iI ((k : Nat) : Int)), .int (iI ((mb : Nat) : Int)), .int (iI how)] (fun st1 => ((min (st 17 k) (st 16 mb)) ≤ 0 ∧ st1 = st) ∨ (0 < (min (st 17 k) (st 16 mb)) ∧ st1 = addP st M k mb how (min (st 17 k) (st 16 mb)) (prt (st 13 mb) (st 12 mb) (st 12 mb - st 16 mb) (min (st 17 k) (st 16 mb))) (prt (st 15 k) (st 14 k) (st 14 k - st 17 k) (min (st 17 k) (st 16 mb))))) := by
  refine mk_open (cc := cX6_pairs) (maxL := 6) (ret := none) (by decide) rfl (Nat.le_of_ble_eq_true rfl) ?_
  intro p e s m args below meth c hx hb hml hr hown hts hlocks hK hN hargs ls hl hW
  have hown : s.vm.findClass RX6 = some m.cls := hown
  have hl : lv_has ls 6 [(0, .ref (ad 0)), (1, .int (iI ((k : Nat) : Int))), (2, .int (iI ((mb : Nat) : Int))), (3, .int (iI how))] := hl
  have inX6 : ∀ w ∈ wsX60, w ∈ wsX6_pairs := by decide +kernel
  have fl64 := hts (.fieldLink RX6 64 "GainsReckonerModel" "saleLeft" "[J") (by decide +kernel)
  have fl61 := hts (.fieldLink RX6 61 "GainsReckonerModel" "buyLeft" "[J") (by decide +kernel)
  have fl73 := hts (.fieldLink RX6 73 "GainsReckonerModel" "by" "[I") (by decide +kernel)
  have fl127 := hts (.fieldLink RX6 127 "GainsReckonerModel" "made" "I") (by decide +kernel)
  have fl76 := hts (.fieldLink RX6 76 "GainsReckonerModel" "from" "[I") (by decide +kernel)
  have fl79 := hts (.fieldLink RX6 79 "GainsReckonerModel" "kind" "[I") (by decide +kernel)
  have fl82 := hts (.fieldLink RX6 82 "GainsReckonerModel" "many" "[J") (by decide +kernel)
  have fl85 := hts (.fieldLink RX6 85 "GainsReckonerModel" "matchCost" "[J") (by decide +kernel)
  have fl52 := hts (.fieldLink RX6 52 "GainsReckonerModel" "cost" "[J") (by decide +kernel)
  have fl48 := hts (.fieldLink RX6 48 "GainsReckonerModel" "bought" "[J") (by decide +kernel)
  have fl88 := hts (.fieldLink RX6 88 "GainsReckonerModel" "matchProceeds" "[J") (by decide +kernel)
  have fl58 := hts (.fieldLink RX6 58 "GainsReckonerModel" "proceeds" "[J") (by decide +kernel)
  have fl55 := hts (.fieldLink RX6 55 "GainsReckonerModel" "sold" "[J") (by decide +kernel)
  refine lv_aload_n hx hb dX6_pairs_0 rfl (lv_at hl 0 rfl) ?_
  refine mk_get (ci := 6) (C := RX6) (T := TX6) (N := 30) hx hb hts inX6 hown hK hW 0 (by decide) rfl rfl 19 (by decide) fl64 (fun _ h9 => h9) rfl dX6_pairs_1 ?_
  refine lv_iload_n hx hb dX6_pairs_4 rfl (lv_at hl 1 rfl) ?_
  refine mk_lald hx hb hK hW 17 (by decide) rfl 2 rfl (j := k) rfl (by omega) (by decide) dX6_pairs_5 ?_
  refine lv_aload_n hx hb dX6_pairs_6 rfl (lv_at hl 0 rfl) ?_
  refine mk_get (ci := 6) (C := RX6) (T := TX6) (N := 30) hx hb hts inX6 hown hK hW 0 (by decide) rfl rfl 18 (by decide) fl61 (fun _ h9 => h9) rfl dX6_pairs_7 ?_
  refine lv_iload_n hx hb dX6_pairs_10 rfl (lv_at hl 2 rfl) ?_
  refine mk_lald hx hb hK hW 16 (by decide) rfl 2 rfl (j := mb) rfl (by omega) (by decide) dX6_pairs_11 ?_
  refine mk_lcmp hx hb dX6_pairs_12 (by omega) (by omega) (fun z1 z1l z1e z1g z1r => ?_)
  refine mk_if_ge (tgt := 25) hx hb dX6_pairs_13 (by decide) (by omega) (fun c_13 => ?_) (fun c_13 => ?_)
  · skip
    refine lv_aload_n hx hb dX6_pairs_25 rfl (lv_at hl 0 rfl) ?_
    refine mk_get (ci := 6) (C := RX6) (T := TX6) (N := 30) hx hb hts inX6 hown hK hW 0 (by decide) rfl rfl 18 (by decide) fl61 (fun _ h9 => h9) rfl dX6_pairs_26 ?_
    refine lv_iload_n hx hb dX6_pairs_29 rfl (lv_at hl 2 rfl) ?_
    refine mk_lald hx hb hK hW 16 (by decide) rfl 2 rfl (j := mb) rfl (by omega) (by decide) dX6_pairs_30 ?_
    refine mk_sayl (y := (min (st 17 k) (st 16 mb))) (by omega) ?_
    refine mk_topl (fun u e_u => ?_)
    refine lv_lstore (lv' := [(4, .long (lI u)), (0, .ref (ad 0)), (1, .int (iI ((k : Nat) : Int))), (2, .int (iI ((mb : Nat) : Int))), (3, .int (iI how))]) hx hb dX6_pairs_31 hl (by decide) rfl (fun ls hl => ?_)
    refine lv_lload hx hb dX6_pairs_33 (lv_at hl 0 rfl) ?_
    refine mk_lconst hx hb (0) rfl dX6_pairs_35 ?_
    refine mk_lcmp hx hb dX6_pairs_36 (by omega) (by omega) (fun z2 z2l z2e z2g z2r => ?_)
    refine mk_if_le (tgt := 191) hx hb dX6_pairs_37 (by decide) (by omega) (fun c_37 => ?_) (fun c_37 => ?_)
    · skip
      exact mk_retV hx hb hr hlocks hW (Or.inl ⟨by omega, rfl⟩) dX6_pairs_191
    · skip
      refine lv_aload_n hx hb dX6_pairs_40 rfl (lv_at hl 1 rfl) ?_
      refine mk_get (ci := 6) (C := RX6) (T := TX6) (N := 30) hx hb hts inX6 hown hK hW 0 (by decide) rfl rfl 23 (by decide) fl73 (fun _ h9 => h9) rfl dX6_pairs_41 ?_
      refine lv_aload_n hx hb dX6_pairs_44 rfl (lv_at hl 1 rfl) ?_
      refine mk_get (ci := 6) (C := RX6) (T := TX6) (N := 30) hx hb hts inX6 hown hK hW 0 (by decide) rfl rfl 22 (by decide) fl127 (fun _ h9 => h9) rfl dX6_pairs_45 ?_
      refine mk_sayi (y := ((M : Nat) : Int)) hM ?_
      refine lv_iload_n hx hb dX6_pairs_48 rfl (lv_at hl 2 rfl) ?_
      refine mk_iast hx hb hK hW 20 (by decide) (fun _ => rfl) 0 rfl (j := M) rfl (by omega) (by decide) dX6_pairs_49 (fun H locs hW => ?_)
      obtain ⟨st3, est3⟩ : ∃ z, z = stC st 20 (fnU (st 20) M ((k : Nat) : Int)) := ⟨_, rfl⟩
      rw [← est3] at hW
      refine lv_aload_n hx hb dX6_pairs_50 rfl (lv_at hl 1 rfl) ?_
      refine mk_get (ci := 6) (C := RX6) (T := TX6) (N := 30) hx hb hts inX6 hown hK hW 0 (by decide) rfl rfl 24 (by decide) fl76 (fun _ h9 => h9) rfl dX6_pairs_51 ?_
      refine lv_aload_n hx hb dX6_pairs_54 rfl (lv_at hl 1 rfl) ?_
      refine mk_get (ci := 6) (C := RX6) (T := TX6) (N := 30) hx hb hts inX6 hown hK hW 0 (by decide) rfl rfl 22 (by decide) fl127 (fun _ h9 => h9) rfl dX6_pairs_55 ?_
      refine mk_sayi (y := (st 0 22)) (by rw [show st3 0 = st 0 from by rw [est3]; exact stC_ne (by decide)]) ?_
      refine mk_sayi (y := ((M : Nat) : Int)) hM ?_
      refine lv_iload_n hx hb dX6_pairs_58 rfl (lv_at hl 3 rfl) ?_
      refine mk_iast hx hb hK hW 21 (by decide) (fun _ => rfl) 0 rfl (j := M) rfl (by omega) (by decide) dX6_pairs_59 (fun H locs hW => ?_)
      obtain ⟨st4, est4⟩ : ∃ z, z = stC st3 21 (fnU (st3 21) M ((mb : Nat) : Int)) := ⟨_, rfl⟩
      rw [← est4] at hW
      refine lv_aload_n hx hb dX6_pairs_60 rfl (lv_at hl 1 rfl) ?_
      refine mk_get (ci := 6) (C := RX6) (T := TX6) (N := 30) hx hb hts inX6 hown hK hW 0 (by decide) rfl rfl 25 (by decide) fl79 (fun _ h9 => h9) rfl dX6_pairs_61 ?_
      refine lv_aload_n hx hb dX6_pairs_64 rfl (lv_at hl 1 rfl) ?_
      refine mk_get (ci := 6) (C := RX6) (T := TX6) (N := 30) hx hb hts inX6 hown hK hW 0 (by decide) rfl rfl 22 (by decide) fl127 (fun _ h9 => h9) rfl dX6_pairs_65 ?_
      refine mk_sayi (y := (st 0 22)) (by rw [show st4 0 = st3 0 from by rw [est4]; exact stC_ne (by decide), show st3 0 = st 0 from by rw [est3]; exact stC_ne (by decide)]) ?_
      refine mk_sayi (y := ((M : Nat) : Int)) hM ?_
      refine lv_iload_n hx hb dX6_pairs_68 rfl (lv_at hl 4 rfl) ?_
      refine mk_iast hx hb hK hW 22 (by decide) (fun _ => rfl) 0 rfl (j := M) rfl (by omega) (by decide) dX6_pairs_69 (fun H locs hW => ?_)
      obtain ⟨st5, est5⟩ : ∃ z, z = stC st4 22 (fnU (st4 22) M how) := ⟨_, rfl⟩
      rw [← est5] at hW
      refine lv_aload_n hx hb dX6_pairs_70 rfl (lv_at hl 1 rfl) ?_
      refine mk_get (ci := 6) (C := RX6) (T := TX6) (N := 30) hx hb hts inX6 hown hK hW 0 (by decide) rfl rfl 26 (by decide) fl82 (fun _ h9 => h9) rfl dX6_pairs_71 ?_
      refine lv_aload_n hx hb dX6_pairs_74 rfl (lv_at hl 1 rfl) ?_
      refine mk_get (ci := 6) (C := RX6) (T := TX6) (N := 30) hx hb hts inX6 hown hK hW 0 (by decide) rfl rfl 22 (by decide) fl127 (fun _ h9 => h9) rfl dX6_pairs_75 ?_
      refine mk_sayi (y := (st 0 22)) (by rw [show st5 0 = st4 0 from by rw [est5]; exact stC_ne (by decide), show st4 0 = st3 0 from by rw [est4]; exact stC_ne (by decide), show st3 0 = st 0 from by rw [est3]; exact stC_ne (by decide)]) ?_
      refine mk_sayi (y := ((M : Nat) : Int)) hM ?_
      refine lv_lload hx hb dX6_pairs_78 (lv_at hl 0 rfl) ?_
      refine mk_last hx hb hK hW 23 (by decide) (fun _ => rfl) 2 rfl (j := M) rfl (by omega) (by decide) dX6_pairs_80 (fun H locs hW => ?_)
      obtain ⟨st6, est6⟩ : ∃ z, z = stC st5 23 (fnU (st5 23) M u) := ⟨_, rfl⟩
      rw [← est6] at hW
      refine lv_aload_n hx hb dX6_pairs_81 rfl (lv_at hl 1 rfl) ?_
      refine mk_get (ci := 6) (C := RX6) (T := TX6) (N := 30) hx hb hts inX6 hown hK hW 0 (by decide) rfl rfl 27 (by decide) fl85 (fun _ h9 => h9) rfl dX6_pairs_82 ?_
      refine lv_aload_n hx hb dX6_pairs_85 rfl (lv_at hl 1 rfl) ?_
      refine mk_get (ci := 6) (C := RX6) (T := TX6) (N := 30) hx hb hts inX6 hown hK hW 0 (by decide) rfl rfl 22 (by decide) fl127 (fun _ h9 => h9) rfl dX6_pairs_86 ?_
      refine mk_sayi (y := (st 0 22)) (by rw [show st6 0 = st5 0 from by rw [est6]; exact stC_ne (by decide), show st5 0 = st4 0 from by rw [est5]; exact stC_ne (by decide), show st4 0 = st3 0 from by rw [est4]; exact stC_ne (by decide), show st3 0 = st 0 from by rw [est3]; exact stC_ne (by decide)]) ?_
      refine mk_sayi (y := ((M : Nat) : Int)) hM ?_
      refine lv_aload_n hx hb dX6_pairs_89 rfl (lv_at hl 1 rfl) ?_
      refine mk_get (ci := 6) (C := RX6) (T := TX6) (N := 30) hx hb hts inX6 hown hK hW 0 (by decide) rfl rfl 15 (by decide) fl52 (fun _ h9 => h9) rfl dX6_pairs_90 ?_
      refine lv_iload_n hx hb dX6_pairs_93 rfl (lv_at hl 3 rfl) ?_
      refine mk_lald hx hb hK hW 13 (by decide) rfl 2 rfl (j := mb) rfl (by omega) (by decide) dX6_pairs_94 ?_
      refine mk_sayl (y := (st 13 mb)) (by rw [show st6 13 = st5 13 from by rw [est6]; exact stC_ne (by decide), show st5 13 = st4 13 from by rw [est5]; exact stC_ne (by decide), show st4 13 = st3 13 from by rw [est4]; exact stC_ne (by decide), show st3 13 = st 13 from by rw [est3]; exact stC_ne (by decide)]) ?_
      refine lv_aload_n hx hb dX6_pairs_95 rfl (lv_at hl 1 rfl) ?_
      refine mk_get (ci := 6) (C := RX6) (T := TX6) (N := 30) hx hb hts inX6 hown hK hW 0 (by decide) rfl rfl 14 (by decide) fl48 (fun _ h9 => h9) rfl dX6_pairs_96 ?_
      refine lv_iload_n hx hb dX6_pairs_99 rfl (lv_at hl 3 rfl) ?_
      refine mk_lald hx hb hK hW 12 (by decide) rfl 2 rfl (j := mb) rfl (by omega) (by decide) dX6_pairs_100 ?_
      refine mk_sayl (y := (st 12 mb)) (by rw [show st6 12 = st5 12 from by rw [est6]; exact stC_ne (by decide), show st5 12 = st4 12 from by rw [est5]; exact stC_ne (by decide), show st4 12 = st3 12 from by rw [est4]; exact stC_ne (by decide), show st3 12 = st 12 from by rw [est3]; exact stC_ne (by decide)]) ?_
      refine lv_aload_n hx hb dX6_pairs_101 rfl (lv_at hl 1 rfl) ?_
      refine mk_get (ci := 6) (C := RX6) (T := TX6) (N := 30) hx hb hts inX6 hown hK hW 0 (by decide) rfl rfl 14 (by decide) fl48 (fun _ h9 => h9) rfl dX6_pairs_102 ?_
      refine lv_iload_n hx hb dX6_pairs_105 rfl (lv_at hl 3 rfl) ?_
      refine mk_lald hx hb hK hW 12 (by decide) rfl 2 rfl (j := mb) rfl (by omega) (by decide) dX6_pairs_106 ?_
      refine mk_sayl (y := (st 12 mb)) (by rw [show st6 12 = st5 12 from by rw [est6]; exact stC_ne (by decide), show st5 12 = st4 12 from by rw [est5]; exact stC_ne (by decide), show st4 12 = st3 12 from by rw [est4]; exact stC_ne (by decide), show st3 12 = st 12 from by rw [est3]; exact stC_ne (by decide)]) ?_
      refine lv_aload_n hx hb dX6_pairs_107 rfl (lv_at hl 1 rfl) ?_
      refine mk_get (ci := 6) (C := RX6) (T := TX6) (N := 30) hx hb hts inX6 hown hK hW 0 (by decide) rfl rfl 18 (by decide) fl61 (fun _ h9 => h9) rfl dX6_pairs_108 ?_
      refine lv_iload_n hx hb dX6_pairs_111 rfl (lv_at hl 3 rfl) ?_
      refine mk_lald hx hb hK hW 16 (by decide) rfl 2 rfl (j := mb) rfl (by omega) (by decide) dX6_pairs_112 ?_
      refine mk_sayl (y := (st 16 mb)) (by rw [show st6 16 = st5 16 from by rw [est6]; exact stC_ne (by decide), show st5 16 = st4 16 from by rw [est5]; exact stC_ne (by decide), show st4 16 = st3 16 from by rw [est4]; exact stC_ne (by decide), show st3 16 = st 16 from by rw [est3]; exact stC_ne (by decide)]) ?_
      refine mk_lsub hx hb dX6_pairs_113 ?_
      refine lv_lload hx hb dX6_pairs_114 (lv_at hl 0 rfl) ?_
      refine mk_goJ (va_runS (As := [.long (lI (st 13 mb)), .long (lI (st 12 mb)), .long (lI ((st 12 mb) - (st 16 mb))), .long (lI u)]) (rest := [.int (iI ((M : Nat) : Int)), .ref (ad 24)]) ⟨hx, hb, hml, hown, hts⟩ (c_X6_part l cg D ad st6 (st 13 mb) (st 12 mb) (st 12 mb - st 16 mb) u (by omega) (by omega) (by omega) (by omega)) (cwS 4 hts gX6_pairs_X6_part rfl rfl rfl (by decide +kernel) ⟨Nat.le_of_ble_eq_true rfl, Nat.le_of_ble_eq_true rfl⟩) (mk_preS hK hN hW) rfl rfl hl.1 rfl (lv_room (Nat.le_of_ble_eq_true rfl)) dX6_pairs_116 ⟨Nat.zero_le _, Nat.zero_le _⟩) hW (fun z1 st7 hp116 H locs hW => ?_)
      obtain ⟨est7, hz1⟩ := hp116
      rw [est7] at hW
      refine mk_last hx hb hK hW 24 (by decide) (fun _ => rfl) 2 rfl (j := M) rfl (by omega) (by decide) dX6_pairs_119 (fun H locs hW => ?_)
      obtain ⟨st8, est8⟩ : ∃ z, z = stC st6 24 (fnU (st6 24) M z1) := ⟨_, rfl⟩
      rw [← est8] at hW
      refine lv_aload_n hx hb dX6_pairs_120 rfl (lv_at hl 1 rfl) ?_
      refine mk_get (ci := 6) (C := RX6) (T := TX6) (N := 30) hx hb hts inX6 hown hK hW 0 (by decide) rfl rfl 28 (by decide) fl88 (fun _ h9 => h9) rfl dX6_pairs_121 ?_
      refine lv_aload_n hx hb dX6_pairs_124 rfl (lv_at hl 1 rfl) ?_
      refine mk_get (ci := 6) (C := RX6) (T := TX6) (N := 30) hx hb hts inX6 hown hK hW 0 (by decide) rfl rfl 22 (by decide) fl127 (fun _ h9 => h9) rfl dX6_pairs_125 ?_
      refine mk_sayi (y := (st 0 22)) (by rw [show st8 0 = st6 0 from by rw [est8]; exact stC_ne (by decide), show st6 0 = st5 0 from by rw [est6]; exact stC_ne (by decide), show st5 0 = st4 0 from by rw [est5]; exact stC_ne (by decide), show st4 0 = st3 0 from by rw [est4]; exact stC_ne (by decide), show st3 0 = st 0 from by rw [est3]; exact stC_ne (by decide)]) ?_
      refine mk_sayi (y := ((M : Nat) : Int)) hM ?_
      refine lv_aload_n hx hb dX6_pairs_128 rfl (lv_at hl 1 rfl) ?_
      refine mk_get (ci := 6) (C := RX6) (T := TX6) (N := 30) hx hb hts inX6 hown hK hW 0 (by decide) rfl rfl 17 (by decide) fl58 (fun _ h9 => h9) rfl dX6_pairs_129 ?_
      refine lv_iload_n hx hb dX6_pairs_132 rfl (lv_at hl 2 rfl) ?_
      refine mk_lald hx hb hK hW 15 (by decide) rfl 2 rfl (j := k) rfl (by omega) (by decide) dX6_pairs_133 ?_
      refine mk_sayl (y := (st 15 k)) (by rw [show st8 15 = st6 15 from by rw [est8]; exact stC_ne (by decide), show st6 15 = st5 15 from by rw [est6]; exact stC_ne (by decide), show st5 15 = st4 15 from by rw [est5]; exact stC_ne (by decide), show st4 15 = st3 15 from by rw [est4]; exact stC_ne (by decide), show st3 15 = st 15 from by rw [est3]; exact stC_ne (by decide)]) ?_
      refine lv_aload_n hx hb dX6_pairs_134 rfl (lv_at hl 1 rfl) ?_
      refine mk_get (ci := 6) (C := RX6) (T := TX6) (N := 30) hx hb hts inX6 hown hK hW 0 (by decide) rfl rfl 16 (by decide) fl55 (fun _ h9 => h9) rfl dX6_pairs_135 ?_
      refine lv_iload_n hx hb dX6_pairs_138 rfl (lv_at hl 2 rfl) ?_
      refine mk_lald hx hb hK hW 14 (by decide) rfl 2 rfl (j := k) rfl (by omega) (by decide) dX6_pairs_139 ?_
      refine mk_sayl (y := (st 14 k)) (by rw [show st8 14 = st6 14 from by rw [est8]; exact stC_ne (by decide), show st6 14 = st5 14 from by rw [est6]; exact stC_ne (by decide), show st5 14 = st4 14 from by rw [est5]; exact stC_ne (by decide), show st4 14 = st3 14 from by rw [est4]; exact stC_ne (by decide), show st3 14 = st 14 from by rw [est3]; exact stC_ne (by decide)]) ?_
      refine lv_aload_n hx hb dX6_pairs_140 rfl (lv_at hl 1 rfl) ?_
      refine mk_get (ci := 6) (C := RX6) (T := TX6) (N := 30) hx hb hts inX6 hown hK hW 0 (by decide) rfl rfl 16 (by decide) fl55 (fun _ h9 => h9) rfl dX6_pairs_141 ?_
      refine lv_iload_n hx hb dX6_pairs_144 rfl (lv_at hl 2 rfl) ?_
      refine mk_lald hx hb hK hW 14 (by decide) rfl 2 rfl (j := k) rfl (by omega) (by decide) dX6_pairs_145 ?_
      refine mk_sayl (y := (st 14 k)) (by rw [show st8 14 = st6 14 from by rw [est8]; exact stC_ne (by decide), show st6 14 = st5 14 from by rw [est6]; exact stC_ne (by decide), show st5 14 = st4 14 from by rw [est5]; exact stC_ne (by decide), show st4 14 = st3 14 from by rw [est4]; exact stC_ne (by decide), show st3 14 = st 14 from by rw [est3]; exact stC_ne (by decide)]) ?_
      refine lv_aload_n hx hb dX6_pairs_146 rfl (lv_at hl 1 rfl) ?_
      refine mk_get (ci := 6) (C := RX6) (T := TX6) (N := 30) hx hb hts inX6 hown hK hW 0 (by decide) rfl rfl 19 (by decide) fl64 (fun _ h9 => h9) rfl dX6_pairs_147 ?_
      refine lv_iload_n hx hb dX6_pairs_150 rfl (lv_at hl 2 rfl) ?_
      refine mk_lald hx hb hK hW 17 (by decide) rfl 2 rfl (j := k) rfl (by omega) (by decide) dX6_pairs_151 ?_
      refine mk_sayl (y := (st 17 k)) (by rw [show st8 17 = st6 17 from by rw [est8]; exact stC_ne (by decide), show st6 17 = st5 17 from by rw [est6]; exact stC_ne (by decide), show st5 17 = st4 17 from by rw [est5]; exact stC_ne (by decide), show st4 17 = st3 17 from by rw [est4]; exact stC_ne (by decide), show st3 17 = st 17 from by rw [est3]; exact stC_ne (by decide)]) ?_
      refine mk_lsub hx hb dX6_pairs_152 ?_
      refine lv_lload hx hb dX6_pairs_153 (lv_at hl 0 rfl) ?_
      refine mk_goJ (va_runS (As := [.long (lI (st 15 k)), .long (lI (st 14 k)), .long (lI ((st 14 k) - (st 17 k))), .long (lI u)]) (rest := [.int (iI ((M : Nat) : Int)), .ref (ad 25)]) ⟨hx, hb, hml, hown, hts⟩ (c_X6_part l cg D ad st8 (st 15 k) (st 14 k) (st 14 k - st 17 k) u (by omega) (by omega) (by omega) (by omega)) (cwS 4 hts gX6_pairs_X6_part rfl rfl rfl (by decide +kernel) ⟨Nat.le_of_ble_eq_true rfl, Nat.le_of_ble_eq_true rfl⟩) (mk_preS hK hN hW) rfl rfl hl.1 rfl (lv_room (Nat.le_of_ble_eq_true rfl)) dX6_pairs_155 ⟨Nat.zero_le _, Nat.zero_le _⟩) hW (fun z2 st9 hp155 H locs hW => ?_)
      obtain ⟨est9, hz2⟩ := hp155
      rw [est9] at hW
      refine mk_last hx hb hK hW 25 (by decide) (fun _ => rfl) 2 rfl (j := M) rfl (by omega) (by decide) dX6_pairs_158 (fun H locs hW => ?_)
      obtain ⟨st10, est10⟩ : ∃ z, z = stC st8 25 (fnU (st8 25) M z2) := ⟨_, rfl⟩
      rw [← est10] at hW
      refine lv_aload_n hx hb dX6_pairs_159 rfl (lv_at hl 1 rfl) ?_
      refine lv_dup hx hb dX6_pairs_160 rfl ?_
      refine mk_get (ci := 6) (C := RX6) (T := TX6) (N := 30) hx hb hts inX6 hown hK hW 0 (by decide) rfl rfl 22 (by decide) fl127 (fun _ h9 => h9) rfl dX6_pairs_161 ?_
      refine mk_sayi (y := (st 0 22)) (by rw [show st10 0 = st8 0 from by rw [est10]; exact stC_ne (by decide), show st8 0 = st6 0 from by rw [est8]; exact stC_ne (by decide), show st6 0 = st5 0 from by rw [est6]; exact stC_ne (by decide), show st5 0 = st4 0 from by rw [est5]; exact stC_ne (by decide), show st4 0 = st3 0 from by rw [est4]; exact stC_ne (by decide), show st3 0 = st 0 from by rw [est3]; exact stC_ne (by decide)]) ?_
      refine mk_sayi (y := ((M : Nat) : Int)) hM ?_
      refine mk_iconst hx hb (1) dX6_pairs_164 ?_
      refine mk_iadd hx hb dX6_pairs_165 ?_
      refine mk_put (ci := 6) (C := RX6) (T := TX6) (N := 30) hx hb hts inX6 tyX6 tyX6_ok nmX6 hown hK hW 0 (by decide) rfl rfl 22 (by decide) fl127 (fun _ h9 => h9) rfl (by decide +kernel) (Nat.le_of_ble_eq_true rfl) rfl dX6_pairs_166 (fun H locs hW => ?_)
      obtain ⟨st11, est11⟩ : ∃ z, z = stC st10 0 (fnU (st10 0) 22 (((M : Nat) : Int) + 1)) := ⟨_, rfl⟩
      rw [← est11] at hW
      refine lv_aload_n hx hb dX6_pairs_169 rfl (lv_at hl 1 rfl) ?_
      refine mk_get (ci := 6) (C := RX6) (T := TX6) (N := 30) hx hb hts inX6 hown hK hW 0 (by decide) rfl rfl 18 (by decide) fl61 (fun _ h9 => h9) rfl dX6_pairs_170 ?_
      refine lv_iload_n hx hb dX6_pairs_173 rfl (lv_at hl 3 rfl) ?_
      refine lv_dup2_11 hx hb dX6_pairs_174 rfl rfl ?_
      refine mk_lald hx hb hK hW 16 (by decide) rfl 2 rfl (j := mb) rfl (by omega) (by decide) dX6_pairs_175 ?_
      refine mk_sayl (y := (st 16 mb)) (by rw [show st11 16 = st10 16 from by rw [est11]; exact stC_ne (by decide), show st10 16 = st8 16 from by rw [est10]; exact stC_ne (by decide), show st8 16 = st6 16 from by rw [est8]; exact stC_ne (by decide), show st6 16 = st5 16 from by rw [est6]; exact stC_ne (by decide), show st5 16 = st4 16 from by rw [est5]; exact stC_ne (by decide), show st4 16 = st3 16 from by rw [est4]; exact stC_ne (by decide), show st3 16 = st 16 from by rw [est3]; exact stC_ne (by decide)]) ?_
      refine lv_lload hx hb dX6_pairs_176 (lv_at hl 0 rfl) ?_
      refine mk_lsub hx hb dX6_pairs_178 ?_
      refine mk_last hx hb hK hW 16 (by decide) (fun _ => rfl) 2 rfl (j := mb) rfl (by omega) (by decide) dX6_pairs_179 (fun H locs hW => ?_)
      obtain ⟨st12, est12⟩ : ∃ z, z = stC st11 16 (fnU (st11 16) mb ((st 16 mb) - u)) := ⟨_, rfl⟩
      rw [← est12] at hW
      refine lv_aload_n hx hb dX6_pairs_180 rfl (lv_at hl 1 rfl) ?_
      refine mk_get (ci := 6) (C := RX6) (T := TX6) (N := 30) hx hb hts inX6 hown hK hW 0 (by decide) rfl rfl 19 (by decide) fl64 (fun _ h9 => h9) rfl dX6_pairs_181 ?_
      refine lv_iload_n hx hb dX6_pairs_184 rfl (lv_at hl 2 rfl) ?_
      refine lv_dup2_11 hx hb dX6_pairs_185 rfl rfl ?_
      refine mk_lald hx hb hK hW 17 (by decide) rfl 2 rfl (j := k) rfl (by omega) (by decide) dX6_pairs_186 ?_
      refine mk_sayl (y := (st 17 k)) (by rw [show st12 17 = st11 17 from by rw [est12]; exact stC_ne (by decide), show st11 17 = st10 17 from by rw [est11]; exact stC_ne (by decide), show st10 17 = st8 17 from by rw [est10]; exact stC_ne (by decide), show st8 17 = st6 17 from by rw [est8]; exact stC_ne (by decide), show st6 17 = st5 17 from by rw [est6]; exact stC_ne (by decide), show st5 17 = st4 17 from by rw [est5]; exact stC_ne (by decide), show st4 17 = st3 17 from by rw [est4]; exact stC_ne (by decide), show st3 17 = st 17 from by rw [est3]; exact stC_ne (by decide)]) ?_
      refine lv_lload hx hb dX6_pairs_187 (lv_at hl 0 rfl) ?_
      refine mk_lsub hx hb dX6_pairs_189 ?_
      refine mk_last hx hb hK hW 17 (by decide) (fun _ => rfl) 2 rfl (j := k) rfl (by omega) (by decide) dX6_pairs_190 (fun H locs hW => ?_)
      obtain ⟨st13, est13⟩ : ∃ z, z = stC st12 17 (fnU (st12 17) k ((st 17 k) - u)) := ⟨_, rfl⟩
      rw [← est13] at hW
      exact mk_retV hx hb hr hlocks hW (Or.inr ⟨by omega, by rw [← e_u, ← hz1, ← hz2]; subst est3; subst est4; subst est5; subst est6; subst est8; subst est10; subst est11; subst est12; subst est13; rfl⟩) dX6_pairs_191
  · skip
    refine lv_aload_n hx hb dX6_pairs_16 rfl (lv_at hl 0 rfl) ?_
    refine mk_get (ci := 6) (C := RX6) (T := TX6) (N := 30) hx hb hts inX6 hown hK hW 0 (by decide) rfl rfl 19 (by decide) fl64 (fun _ h9 => h9) rfl dX6_pairs_17 ?_
    refine lv_iload_n hx hb dX6_pairs_20 rfl (lv_at hl 1 rfl) ?_
    refine mk_lald hx hb hK hW 17 (by decide) rfl 2 rfl (j := k) rfl (by omega) (by decide) dX6_pairs_21 ?_
    refine lv_goto (tgt := 31) hx hb dX6_pairs_22 (by decide) ?_
    refine mk_sayl (y := (min (st 17 k) (st 16 mb))) (by omega) ?_
    refine mk_topl (fun u e_u => ?_)
    refine lv_lstore (lv' := [(4, .long (lI u)), (0, .ref (ad 0)), (1, .int (iI ((k : Nat) : Int))), (2, .int (iI ((mb : Nat) : Int))), (3, .int (iI how))]) hx hb dX6_pairs_31 hl (by decide) rfl (fun ls hl => ?_)
    refine lv_lload hx hb dX6_pairs_33 (lv_at hl 0 rfl) ?_
    refine mk_lconst hx hb (0) rfl dX6_pairs_35 ?_
    refine mk_lcmp hx hb dX6_pairs_36 (by omega) (by omega) (fun z14 z14l z14e z14g z14r => ?_)
    refine mk_if_le (tgt := 191) hx hb dX6_pairs_37 (by decide) (by omega) (fun c_37 => ?_) (fun c_37 => ?_)
    · skip
      exact mk_retV hx hb hr hlocks hW (Or.inl ⟨by omega, rfl⟩) dX6_pairs_191
    · skip
      refine lv_aload_n hx hb dX6_pairs_40 rfl (lv_at hl 1 rfl) ?_
      refine mk_get (ci := 6) (C := RX6) (T := TX6) (N := 30) hx hb hts inX6 hown hK hW 0 (by decide) rfl rfl 23 (by decide) fl73 (fun _ h9 => h9) rfl dX6_pairs_41 ?_
      refine lv_aload_n hx hb dX6_pairs_44 rfl (lv_at hl 1 rfl) ?_
      refine mk_get (ci := 6) (C := RX6) (T := TX6) (N := 30) hx hb hts inX6 hown hK hW 0 (by decide) rfl rfl 22 (by decide) fl127 (fun _ h9 => h9) rfl dX6_pairs_45 ?_
      refine mk_sayi (y := ((M : Nat) : Int)) hM ?_
      refine lv_iload_n hx hb dX6_pairs_48 rfl (lv_at hl 2 rfl) ?_
      refine mk_iast hx hb hK hW 20 (by decide) (fun _ => rfl) 0 rfl (j := M) rfl (by omega) (by decide) dX6_pairs_49 (fun H locs hW => ?_)
      obtain ⟨st15, est15⟩ : ∃ z, z = stC st 20 (fnU (st 20) M ((k : Nat) : Int)) := ⟨_, rfl⟩
      rw [← est15] at hW
      refine lv_aload_n hx hb dX6_pairs_50 rfl (lv_at hl 1 rfl) ?_
      refine mk_get (ci := 6) (C := RX6) (T := TX6) (N := 30) hx hb hts inX6 hown hK hW 0 (by decide) rfl rfl 24 (by decide) fl76 (fun _ h9 => h9) rfl dX6_pairs_51 ?_
      refine lv_aload_n hx hb dX6_pairs_54 rfl (lv_at hl 1 rfl) ?_
      refine mk_get (ci := 6) (C := RX6) (T := TX6) (N := 30) hx hb hts inX6 hown hK hW 0 (by decide) rfl rfl 22 (by decide) fl127 (fun _ h9 => h9) rfl dX6_pairs_55 ?_
      refine mk_sayi (y := (st 0 22)) (by rw [show st15 0 = st 0 from by rw [est15]; exact stC_ne (by decide)]) ?_
      refine mk_sayi (y := ((M : Nat) : Int)) hM ?_
      refine lv_iload_n hx hb dX6_pairs_58 rfl (lv_at hl 3 rfl) ?_
      refine mk_iast hx hb hK hW 21 (by decide) (fun _ => rfl) 0 rfl (j := M) rfl (by omega) (by decide) dX6_pairs_59 (fun H locs hW => ?_)
      obtain ⟨st16, est16⟩ : ∃ z, z = stC st15 21 (fnU (st15 21) M ((mb : Nat) : Int)) := ⟨_, rfl⟩
      rw [← est16] at hW
      refine lv_aload_n hx hb dX6_pairs_60 rfl (lv_at hl 1 rfl) ?_
      refine mk_get (ci := 6) (C := RX6) (T := TX6) (N := 30) hx hb hts inX6 hown hK hW 0 (by decide) rfl rfl 25 (by decide) fl79 (fun _ h9 => h9) rfl dX6_pairs_61 ?_
      refine lv_aload_n hx hb dX6_pairs_64 rfl (lv_at hl 1 rfl) ?_
      refine mk_get (ci := 6) (C := RX6) (T := TX6) (N := 30) hx hb hts inX6 hown hK hW 0 (by decide) rfl rfl 22 (by decide) fl127 (fun _ h9 => h9) rfl dX6_pairs_65 ?_
      refine mk_sayi (y := (st 0 22)) (by rw [show st16 0 = st15 0 from by rw [est16]; exact stC_ne (by decide), show st15 0 = st 0 from by rw [est15]; exact stC_ne (by decide)]) ?_
      refine mk_sayi (y := ((M : Nat) : Int)) hM ?_
      refine lv_iload_n hx hb dX6_pairs_68 rfl (lv_at hl 4 rfl) ?_
      refine mk_iast hx hb hK hW 22 (by decide) (fun _ => rfl) 0 rfl (j := M) rfl (by omega) (by decide) dX6_pairs_69 (fun H locs hW => ?_)
      obtain ⟨st17, est17⟩ : ∃ z, z = stC st16 22 (fnU (st16 22) M how) := ⟨_, rfl⟩
      rw [← est17] at hW
      refine lv_aload_n hx hb dX6_pairs_70 rfl (lv_at hl 1 rfl) ?_
      refine mk_get (ci := 6) (C := RX6) (T := TX6) (N := 30) hx hb hts inX6 hown hK hW 0 (by decide) rfl rfl 26 (by decide) fl82 (fun _ h9 => h9) rfl dX6_pairs_71 ?_
      refine lv_aload_n hx hb dX6_pairs_74 rfl (lv_at hl 1 rfl) ?_
      refine mk_get (ci := 6) (C := RX6) (T := TX6) (N := 30) hx hb hts inX6 hown hK hW 0 (by decide) rfl rfl 22 (by decide) fl127 (fun _ h9 => h9) rfl dX6_pairs_75 ?_
      refine mk_sayi (y := (st 0 22)) (by rw [show st17 0 = st16 0 from by rw [est17]; exact stC_ne (by decide), show st16 0 = st15 0 from by rw [est16]; exact stC_ne (by decide), show st15 0 = st 0 from by rw [est15]; exact stC_ne (by decide)]) ?_
      refine mk_sayi (y := ((M : Nat) : Int)) hM ?_
      refine lv_lload hx hb dX6_pairs_78 (lv_at hl 0 rfl) ?_
      refine mk_last hx hb hK hW 23 (by decide) (fun _ => rfl) 2 rfl (j := M) rfl (by omega) (by decide) dX6_pairs_80 (fun H locs hW => ?_)
      obtain ⟨st18, est18⟩ : ∃ z, z = stC st17 23 (fnU (st17 23) M u) := ⟨_, rfl⟩
      rw [← est18] at hW
      refine lv_aload_n hx hb dX6_pairs_81 rfl (lv_at hl 1 rfl) ?_
      refine mk_get (ci := 6) (C := RX6) (T := TX6) (N := 30) hx hb hts inX6 hown hK hW 0 (by decide) rfl rfl 27 (by decide) fl85 (fun _ h9 => h9) rfl dX6_pairs_82 ?_
      refine lv_aload_n hx hb dX6_pairs_85 rfl (lv_at hl 1 rfl) ?_
      refine mk_get (ci := 6) (C := RX6) (T := TX6) (N := 30) hx hb hts inX6 hown hK hW 0 (by decide) rfl rfl 22 (by decide) fl127 (fun _ h9 => h9) rfl dX6_pairs_86 ?_
      refine mk_sayi (y := (st 0 22)) (by rw [show st18 0 = st17 0 from by rw [est18]; exact stC_ne (by decide), show st17 0 = st16 0 from by rw [est17]; exact stC_ne (by decide), show st16 0 = st15 0 from by rw [est16]; exact stC_ne (by decide), show st15 0 = st 0 from by rw [est15]; exact stC_ne (by decide)]) ?_
      refine mk_sayi (y := ((M : Nat) : Int)) hM ?_
      refine lv_aload_n hx hb dX6_pairs_89 rfl (lv_at hl 1 rfl) ?_
      refine mk_get (ci := 6) (C := RX6) (T := TX6) (N := 30) hx hb hts inX6 hown hK hW 0 (by decide) rfl rfl 15 (by decide) fl52 (fun _ h9 => h9) rfl dX6_pairs_90 ?_
      refine lv_iload_n hx hb dX6_pairs_93 rfl (lv_at hl 3 rfl) ?_
      refine mk_lald hx hb hK hW 13 (by decide) rfl 2 rfl (j := mb) rfl (by omega) (by decide) dX6_pairs_94 ?_
      refine mk_sayl (y := (st 13 mb)) (by rw [show st18 13 = st17 13 from by rw [est18]; exact stC_ne (by decide), show st17 13 = st16 13 from by rw [est17]; exact stC_ne (by decide), show st16 13 = st15 13 from by rw [est16]; exact stC_ne (by decide), show st15 13 = st 13 from by rw [est15]; exact stC_ne (by decide)]) ?_
      refine lv_aload_n hx hb dX6_pairs_95 rfl (lv_at hl 1 rfl) ?_
      refine mk_get (ci := 6) (C := RX6) (T := TX6) (N := 30) hx hb hts inX6 hown hK hW 0 (by decide) rfl rfl 14 (by decide) fl48 (fun _ h9 => h9) rfl dX6_pairs_96 ?_
      refine lv_iload_n hx hb dX6_pairs_99 rfl (lv_at hl 3 rfl) ?_
      refine mk_lald hx hb hK hW 12 (by decide) rfl 2 rfl (j := mb) rfl (by omega) (by decide) dX6_pairs_100 ?_
      refine mk_sayl (y := (st 12 mb)) (by rw [show st18 12 = st17 12 from by rw [est18]; exact stC_ne (by decide), show st17 12 = st16 12 from by rw [est17]; exact stC_ne (by decide), show st16 12 = st15 12 from by rw [est16]; exact stC_ne (by decide), show st15 12 = st 12 from by rw [est15]; exact stC_ne (by decide)]) ?_
      refine lv_aload_n hx hb dX6_pairs_101 rfl (lv_at hl 1 rfl) ?_
      refine mk_get (ci := 6) (C := RX6) (T := TX6) (N := 30) hx hb hts inX6 hown hK hW 0 (by decide) rfl rfl 14 (by decide) fl48 (fun _ h9 => h9) rfl dX6_pairs_102 ?_
      refine lv_iload_n hx hb dX6_pairs_105 rfl (lv_at hl 3 rfl) ?_
      refine mk_lald hx hb hK hW 12 (by decide) rfl 2 rfl (j := mb) rfl (by omega) (by decide) dX6_pairs_106 ?_
      refine mk_sayl (y := (st 12 mb)) (by rw [show st18 12 = st17 12 from by rw [est18]; exact stC_ne (by decide), show st17 12 = st16 12 from by rw [est17]; exact stC_ne (by decide), show st16 12 = st15 12 from by rw [est16]; exact stC_ne (by decide), show st15 12 = st 12 from by rw [est15]; exact stC_ne (by decide)]) ?_
      refine lv_aload_n hx hb dX6_pairs_107 rfl (lv_at hl 1 rfl) ?_
      refine mk_get (ci := 6) (C := RX6) (T := TX6) (N := 30) hx hb hts inX6 hown hK hW 0 (by decide) rfl rfl 18 (by decide) fl61 (fun _ h9 => h9) rfl dX6_pairs_108 ?_
      refine lv_iload_n hx hb dX6_pairs_111 rfl (lv_at hl 3 rfl) ?_
      refine mk_lald hx hb hK hW 16 (by decide) rfl 2 rfl (j := mb) rfl (by omega) (by decide) dX6_pairs_112 ?_
      refine mk_sayl (y := (st 16 mb)) (by rw [show st18 16 = st17 16 from by rw [est18]; exact stC_ne (by decide), show st17 16 = st16 16 from by rw [est17]; exact stC_ne (by decide), show st16 16 = st15 16 from by rw [est16]; exact stC_ne (by decide), show st15 16 = st 16 from by rw [est15]; exact stC_ne (by decide)]) ?_
      refine mk_lsub hx hb dX6_pairs_113 ?_
      refine lv_lload hx hb dX6_pairs_114 (lv_at hl 0 rfl) ?_
      refine mk_goJ (va_runS (As := [.long (lI (st 13 mb)), .long (lI (st 12 mb)), .long (lI ((st 12 mb) - (st 16 mb))), .long (lI u)]) (rest := [.int (iI ((M : Nat) : Int)), .ref (ad 24)]) ⟨hx, hb, hml, hown, hts⟩ (c_X6_part l cg D ad st18 (st 13 mb) (st 12 mb) (st 12 mb - st 16 mb) u (by omega) (by omega) (by omega) (by omega)) (cwS 4 hts gX6_pairs_X6_part rfl rfl rfl (by decide +kernel) ⟨Nat.le_of_ble_eq_true rfl, Nat.le_of_ble_eq_true rfl⟩) (mk_preS hK hN hW) rfl rfl hl.1 rfl (lv_room (Nat.le_of_ble_eq_true rfl)) dX6_pairs_116 ⟨Nat.zero_le _, Nat.zero_le _⟩) hW (fun z1 st19 hp116 H locs hW => ?_)
      obtain ⟨est19, hz1⟩ := hp116
      rw [est19] at hW
      refine mk_last hx hb hK hW 24 (by decide) (fun _ => rfl) 2 rfl (j := M) rfl (by omega) (by decide) dX6_pairs_119 (fun H locs hW => ?_)
      obtain ⟨st20, est20⟩ : ∃ z, z = stC st18 24 (fnU (st18 24) M z1) := ⟨_, rfl⟩
      rw [← est20] at hW
      refine lv_aload_n hx hb dX6_pairs_120 rfl (lv_at hl 1 rfl) ?_
      refine mk_get (ci := 6) (C := RX6) (T := TX6) (N := 30) hx hb hts inX6 hown hK hW 0 (by decide) rfl rfl 28 (by decide) fl88 (fun _ h9 => h9) rfl dX6_pairs_121 ?_
      refine lv_aload_n hx hb dX6_pairs_124 rfl (lv_at hl 1 rfl) ?_
      refine mk_get (ci := 6) (C := RX6) (T := TX6) (N := 30) hx hb hts inX6 hown hK hW 0 (by decide) rfl rfl 22 (by decide) fl127 (fun _ h9 => h9) rfl dX6_pairs_125 ?_
      refine mk_sayi (y := (st 0 22)) (by rw [show st20 0 = st18 0 from by rw [est20]; exact stC_ne (by decide), show st18 0 = st17 0 from by rw [est18]; exact stC_ne (by decide), show st17 0 = st16 0 from by rw [est17]; exact stC_ne (by decide), show st16 0 = st15 0 from by rw [est16]; exact stC_ne (by decide), show st15 0 = st 0 from by rw [est15]; exact stC_ne (by decide)]) ?_
      refine mk_sayi (y := ((M : Nat) : Int)) hM ?_
      refine lv_aload_n hx hb dX6_pairs_128 rfl (lv_at hl 1 rfl) ?_
      refine mk_get (ci := 6) (C := RX6) (T := TX6) (N := 30) hx hb hts inX6 hown hK hW 0 (by decide) rfl rfl 17 (by decide) fl58 (fun _ h9 => h9) rfl dX6_pairs_129 ?_
      refine lv_iload_n hx hb dX6_pairs_132 rfl (lv_at hl 2 rfl) ?_
      refine mk_lald hx hb hK hW 15 (by decide) rfl 2 rfl (j := k) rfl (by omega) (by decide) dX6_pairs_133 ?_
      refine mk_sayl (y := (st 15 k)) (by rw [show st20 15 = st18 15 from by rw [est20]; exact stC_ne (by decide), show st18 15 = st17 15 from by rw [est18]; exact stC_ne (by decide), show st17 15 = st16 15 from by rw [est17]; exact stC_ne (by decide), show st16 15 = st15 15 from by rw [est16]; exact stC_ne (by decide), show st15 15 = st 15 from by rw [est15]; exact stC_ne (by decide)]) ?_
      refine lv_aload_n hx hb dX6_pairs_134 rfl (lv_at hl 1 rfl) ?_
      refine mk_get (ci := 6) (C := RX6) (T := TX6) (N := 30) hx hb hts inX6 hown hK hW 0 (by decide) rfl rfl 16 (by decide) fl55 (fun _ h9 => h9) rfl dX6_pairs_135 ?_
      refine lv_iload_n hx hb dX6_pairs_138 rfl (lv_at hl 2 rfl) ?_
      refine mk_lald hx hb hK hW 14 (by decide) rfl 2 rfl (j := k) rfl (by omega) (by decide) dX6_pairs_139 ?_
      refine mk_sayl (y := (st 14 k)) (by rw [show st20 14 = st18 14 from by rw [est20]; exact stC_ne (by decide), show st18 14 = st17 14 from by rw [est18]; exact stC_ne (by decide), show st17 14 = st16 14 from by rw [est17]; exact stC_ne (by decide), show st16 14 = st15 14 from by rw [est16]; exact stC_ne (by decide), show st15 14 = st 14 from by rw [est15]; exact stC_ne (by decide)]) ?_
      refine lv_aload_n hx hb dX6_pairs_140 rfl (lv_at hl 1 rfl) ?_
      refine mk_get (ci := 6) (C := RX6) (T := TX6) (N := 30) hx hb hts inX6 hown hK hW 0 (by decide) rfl rfl 16 (by decide) fl55 (fun _ h9 => h9) rfl dX6_pairs_141 ?_
      refine lv_iload_n hx hb dX6_pairs_144 rfl (lv_at hl 2 rfl) ?_
      refine mk_lald hx hb hK hW 14 (by decide) rfl 2 rfl (j := k) rfl (by omega) (by decide) dX6_pairs_145 ?_
      refine mk_sayl (y := (st 14 k)) (by rw [show st20 14 = st18 14 from by rw [est20]; exact stC_ne (by decide), show st18 14 = st17 14 from by rw [est18]; exact stC_ne (by decide), show st17 14 = st16 14 from by rw [est17]; exact stC_ne (by decide), show st16 14 = st15 14 from by rw [est16]; exact stC_ne (by decide), show st15 14 = st 14 from by rw [est15]; exact stC_ne (by decide)]) ?_
      refine lv_aload_n hx hb dX6_pairs_146 rfl (lv_at hl 1 rfl) ?_
      refine mk_get (ci := 6) (C := RX6) (T := TX6) (N := 30) hx hb hts inX6 hown hK hW 0 (by decide) rfl rfl 19 (by decide) fl64 (fun _ h9 => h9) rfl dX6_pairs_147 ?_
      refine lv_iload_n hx hb dX6_pairs_150 rfl (lv_at hl 2 rfl) ?_
      refine mk_lald hx hb hK hW 17 (by decide) rfl 2 rfl (j := k) rfl (by omega) (by decide) dX6_pairs_151 ?_
      refine mk_sayl (y := (st 17 k)) (by rw [show st20 17 = st18 17 from by rw [est20]; exact stC_ne (by decide), show st18 17 = st17 17 from by rw [est18]; exact stC_ne (by decide), show st17 17 = st16 17 from by rw [est17]; exact stC_ne (by decide), show st16 17 = st15 17 from by rw [est16]; exact stC_ne (by decide), show st15 17 = st 17 from by rw [est15]; exact stC_ne (by decide)]) ?_
      refine mk_lsub hx hb dX6_pairs_152 ?_
      refine lv_lload hx hb dX6_pairs_153 (lv_at hl 0 rfl) ?_
      refine mk_goJ (va_runS (As := [.long (lI (st 15 k)), .long (lI (st 14 k)), .long (lI ((st 14 k) - (st 17 k))), .long (lI u)]) (rest := [.int (iI ((M : Nat) : Int)), .ref (ad 25)]) ⟨hx, hb, hml, hown, hts⟩ (c_X6_part l cg D ad st20 (st 15 k) (st 14 k) (st 14 k - st 17 k) u (by omega) (by omega) (by omega) (by omega)) (cwS 4 hts gX6_pairs_X6_part rfl rfl rfl (by decide +kernel) ⟨Nat.le_of_ble_eq_true rfl, Nat.le_of_ble_eq_true rfl⟩) (mk_preS hK hN hW) rfl rfl hl.1 rfl (lv_room (Nat.le_of_ble_eq_true rfl)) dX6_pairs_155 ⟨Nat.zero_le _, Nat.zero_le _⟩) hW (fun z2 st21 hp155 H locs hW => ?_)
      obtain ⟨est21, hz2⟩ := hp155
      rw [est21] at hW
      refine mk_last hx hb hK hW 25 (by decide) (fun _ => rfl) 2 rfl (j := M) rfl (by omega) (by decide) dX6_pairs_158 (fun H locs hW => ?_)
      obtain ⟨st22, est22⟩ : ∃ z, z = stC st20 25 (fnU (st20 25) M z2) := ⟨_, rfl⟩
      rw [← est22] at hW
      refine lv_aload_n hx hb dX6_pairs_159 rfl (lv_at hl 1 rfl) ?_
      refine lv_dup hx hb dX6_pairs_160 rfl ?_
      refine mk_get (ci := 6) (C := RX6) (T := TX6) (N := 30) hx hb hts inX6 hown hK hW 0 (by decide) rfl rfl 22 (by decide) fl127 (fun _ h9 => h9) rfl dX6_pairs_161 ?_
      refine mk_sayi (y := (st 0 22)) (by rw [show st22 0 = st20 0 from by rw [est22]; exact stC_ne (by decide), show st20 0 = st18 0 from by rw [est20]; exact stC_ne (by decide), show st18 0 = st17 0 from by rw [est18]; exact stC_ne (by decide), show st17 0 = st16 0 from by rw [est17]; exact stC_ne (by decide), show st16 0 = st15 0 from by rw [est16]; exact stC_ne (by decide), show st15 0 = st 0 from by rw [est15]; exact stC_ne (by decide)]) ?_
      refine mk_sayi (y := ((M : Nat) : Int)) hM ?_
      refine mk_iconst hx hb (1) dX6_pairs_164 ?_
      refine mk_iadd hx hb dX6_pairs_165 ?_
      refine mk_put (ci := 6) (C := RX6) (T := TX6) (N := 30) hx hb hts inX6 tyX6 tyX6_ok nmX6 hown hK hW 0 (by decide) rfl rfl 22 (by decide) fl127 (fun _ h9 => h9) rfl (by decide +kernel) (Nat.le_of_ble_eq_true rfl) rfl dX6_pairs_166 (fun H locs hW => ?_)
      obtain ⟨st23, est23⟩ : ∃ z, z = stC st22 0 (fnU (st22 0) 22 (((M : Nat) : Int) + 1)) := ⟨_, rfl⟩
      rw [← est23] at hW
      refine lv_aload_n hx hb dX6_pairs_169 rfl (lv_at hl 1 rfl) ?_
      refine mk_get (ci := 6) (C := RX6) (T := TX6) (N := 30) hx hb hts inX6 hown hK hW 0 (by decide) rfl rfl 18 (by decide) fl61 (fun _ h9 => h9) rfl dX6_pairs_170 ?_
      refine lv_iload_n hx hb dX6_pairs_173 rfl (lv_at hl 3 rfl) ?_
      refine lv_dup2_11 hx hb dX6_pairs_174 rfl rfl ?_
      refine mk_lald hx hb hK hW 16 (by decide) rfl 2 rfl (j := mb) rfl (by omega) (by decide) dX6_pairs_175 ?_
      refine mk_sayl (y := (st 16 mb)) (by rw [show st23 16 = st22 16 from by rw [est23]; exact stC_ne (by decide), show st22 16 = st20 16 from by rw [est22]; exact stC_ne (by decide), show st20 16 = st18 16 from by rw [est20]; exact stC_ne (by decide), show st18 16 = st17 16 from by rw [est18]; exact stC_ne (by decide), show st17 16 = st16 16 from by rw [est17]; exact stC_ne (by decide), show st16 16 = st15 16 from by rw [est16]; exact stC_ne (by decide), show st15 16 = st 16 from by rw [est15]; exact stC_ne (by decide)]) ?_
      refine lv_lload hx hb dX6_pairs_176 (lv_at hl 0 rfl) ?_
      refine mk_lsub hx hb dX6_pairs_178 ?_
      refine mk_last hx hb hK hW 16 (by decide) (fun _ => rfl) 2 rfl (j := mb) rfl (by omega) (by decide) dX6_pairs_179 (fun H locs hW => ?_)
      obtain ⟨st24, est24⟩ : ∃ z, z = stC st23 16 (fnU (st23 16) mb ((st 16 mb) - u)) := ⟨_, rfl⟩
      rw [← est24] at hW
      refine lv_aload_n hx hb dX6_pairs_180 rfl (lv_at hl 1 rfl) ?_
      refine mk_get (ci := 6) (C := RX6) (T := TX6) (N := 30) hx hb hts inX6 hown hK hW 0 (by decide) rfl rfl 19 (by decide) fl64 (fun _ h9 => h9) rfl dX6_pairs_181 ?_
      refine lv_iload_n hx hb dX6_pairs_184 rfl (lv_at hl 2 rfl) ?_
      refine lv_dup2_11 hx hb dX6_pairs_185 rfl rfl ?_
      refine mk_lald hx hb hK hW 17 (by decide) rfl 2 rfl (j := k) rfl (by omega) (by decide) dX6_pairs_186 ?_
      refine mk_sayl (y := (st 17 k)) (by rw [show st24 17 = st23 17 from by rw [est24]; exact stC_ne (by decide), show st23 17 = st22 17 from by rw [est23]; exact stC_ne (by decide), show st22 17 = st20 17 from by rw [est22]; exact stC_ne (by decide), show st20 17 = st18 17 from by rw [est20]; exact stC_ne (by decide), show st18 17 = st17 17 from by rw [est18]; exact stC_ne (by decide), show st17 17 = st16 17 from by rw [est17]; exact stC_ne (by decide), show st16 17 = st15 17 from by rw [est16]; exact stC_ne (by decide), show st15 17 = st 17 from by rw [est15]; exact stC_ne (by decide)]) ?_
      refine lv_lload hx hb dX6_pairs_187 (lv_at hl 0 rfl) ?_
      refine mk_lsub hx hb dX6_pairs_189 ?_
      refine mk_last hx hb hK hW 17 (by decide) (fun _ => rfl) 2 rfl (j := k) rfl (by omega) (by decide) dX6_pairs_190 (fun H locs hW => ?_)
      obtain ⟨st25, est25⟩ : ∃ z, z = stC st24 17 (fnU (st24 17) k ((st 17 k) - u)) := ⟨_, rfl⟩
      rw [← est25] at hW
      exact mk_retV hx hb hr hlocks hW (Or.inr ⟨by omega, by rw [← e_u, ← hz1, ← hz2]; subst est15; subst est16; subst est17; subst est18; subst est20; subst est22; subst est23; subst est24; subst est25; rfl⟩) dX6_pairs_191

set_option maxHeartbeats 4000000 in
set_option maxRecDepth 100000 in
theorem c_X6_pools (l : Launch) (cg : Nat → ClassId) (D : va_G) (ad : Nat → Nat) (st : Nat → Nat → Int) (R : Nat) (fD fb fc fs fp : Nat → Int) (wd : Int) (hRN : RN R fD fb fc fs fp) (hR : st 0 12 = R) (hrw : ∀ i, i < R → st 12 i = fb i ∧ st 13 i = fc i ∧ st 14 i = fs i ∧ st 15 i = fp i ∧ st 16 i = blw fD fb fs wd R i ∧ st 17 i = slft fD fb fs wd i R) (hA : AM st (mSs fb fs fc fp R ++ mLL fD fb fs fc fp wd R R)) : MV l yX6_pools wsX6_pools ({ frames := 1, cells := 0, slots := 0, locals := 27 }) D vwCl (TY cg) 26 (celM cg) ad st [.ref (ad 0)] (fun st1 => Fr [0, 18, 19, 20, 21, 22, 23, 24, 25] st st1 ∧ (∀ j, j ≠ 22 → st1 0 j = st 0 j) ∧ (∀ i, i < R → st1 18 i = pU fD fb fs wd R (i + 1) ∧ st1 19 i = pC fD fb fs fc wd R (i + 1)) ∧ AM st1 (mMade fD fb fs fc fp wd R)) := by
  refine mk_open (cc := cX6_pools) (maxL := 8) (ret := none) (by decide) rfl (Nat.le_of_ble_eq_true rfl) ?_
  intro p e s m args below meth c hx hb hml hr hown hts hlocks hK hN hargs ls hl hW
  have hown : s.vm.findClass RX6 = some m.cls := hown
  have hl : lv_has ls 8 [(0, .ref (ad 0))] := hl
  have inX6 : ∀ w ∈ wsX60, w ∈ wsX6_pools := by decide +kernel
  have fl124 := hts (.fieldLink RX6 124 "GainsReckonerModel" "days" "I") (by decide +kernel)
  have fl61 := hts (.fieldLink RX6 61 "GainsReckonerModel" "buyLeft" "[J") (by decide +kernel)
  have fl64 := hts (.fieldLink RX6 64 "GainsReckonerModel" "saleLeft" "[J") (by decide +kernel)
  have fl67 := hts (.fieldLink RX6 67 "GainsReckonerModel" "units" "[J") (by decide +kernel)
  have fl70 := hts (.fieldLink RX6 70 "GainsReckonerModel" "value" "[J") (by decide +kernel)
  have fl73 := hts (.fieldLink RX6 73 "GainsReckonerModel" "by" "[I") (by decide +kernel)
  have fl127 := hts (.fieldLink RX6 127 "GainsReckonerModel" "made" "I") (by decide +kernel)
  have fl76 := hts (.fieldLink RX6 76 "GainsReckonerModel" "from" "[I") (by decide +kernel)
  have fl79 := hts (.fieldLink RX6 79 "GainsReckonerModel" "kind" "[I") (by decide +kernel)
  have fl82 := hts (.fieldLink RX6 82 "GainsReckonerModel" "many" "[J") (by decide +kernel)
  have fl85 := hts (.fieldLink RX6 85 "GainsReckonerModel" "matchCost" "[J") (by decide +kernel)
  have fl88 := hts (.fieldLink RX6 88 "GainsReckonerModel" "matchProceeds" "[J") (by decide +kernel)
  have fl58 := hts (.fieldLink RX6 58 "GainsReckonerModel" "proceeds" "[J") (by decide +kernel)
  have fl55 := hts (.fieldLink RX6 55 "GainsReckonerModel" "sold" "[J") (by decide +kernel)
  have fl52 := hts (.fieldLink RX6 52 "GainsReckonerModel" "cost" "[J") (by decide +kernel)
  have fl48 := hts (.fieldLink RX6 48 "GainsReckonerModel" "bought" "[J") (by decide +kernel)
  obtain ⟨hR6, hso, hDr, hb0, hs0, hc0, hp0, hh0, hnz, hc6, hp6, hb6, hs6⟩ := id hRN
  have hmade := hRN.made (w := wd)
  have eMade : (mMade fD fb fs fc fp wd R).length = (mSs fb fs fc fp R).length + ((mLL fD fb fs fc fp wd R R).length + (mPP fD fb fs fc fp wd R R).length) := by
    unfold mMade; rw [List.length_append, List.length_append]
  refine mk_lconst hx hb (0) rfl dX6_pools_0 ?_
  refine lv_lstore_n (lv' := [(1, .long (lI 0)), (0, .ref (ad 0))]) hx hb dX6_pools_1 rfl hl (by decide) rfl (fun ls hl => ?_)
  refine mk_lconst hx hb (0) rfl dX6_pools_2 ?_
  refine lv_lstore_n (lv' := [(3, .long (lI 0)), (1, .long (lI 0)), (0, .ref (ad 0))]) hx hb dX6_pools_3 rfl hl (by decide) rfl (fun ls hl => ?_)
  refine mk_iconst hx hb (0) dX6_pools_4 ?_
  refine lv_istore (lv' := [(5, .int (iI 0)), (3, .long (lI 0)), (1, .long (lI 0)), (0, .ref (ad 0))]) hx hb dX6_pools_5 hl (by decide) rfl (fun ls hl => ?_)
  have loop7 : ∀ (fuel : Nat) (q : Nat → Nat → Int) (k : Nat), (k ≤ R) → (Fr [0, 18, 19, 20, 21, 22, 23, 24, 25] st q) → (∀ j, j ≠ 22 → q 0 j = st 0 j) → (AM q ((mSs fb fs fc fp R ++ mLL fD fb fs fc fp wd R R) ++ mPP fD fb fs fc fp wd R k)) → (∀ i, i < k → q 18 i = pU fD fb fs wd R (i + 1) ∧ q 19 i = pC fD fb fs fc wd R (i + 1)) → R - k < fuel → ∀ (H : Heap) (locs : List Loc) (ls : Array Slot), GW D vwCl 26 (celM cg) ad (wA 26 ad) s.heap q H locs → lv_has ls 8 [(0, .ref (ad 0)), (1, .long (lI (pU fD fb fs wd R k))), (3, .long (lI (pC fD fb fs fc wd R k))), (5, .int (iI ((k : Nat) : Int)))] → W p l e (headSpec wsX6_pools ({ frames := 1, cells := 0, slots := 0, locals := 27 })).room s m args below meth c H locs 0 0 (MQ below (va_Qv (fun st1 => Fr [0, 18, 19, 20, 21, 22, 23, 24, 25] st st1 ∧ (∀ j, j ≠ 22 → st1 0 j = st 0 j) ∧ (∀ i, i < R → st1 18 i = pU fD fb fs wd R (i + 1) ∧ st1 19 i = pC fD fb fs fc wd R (i + 1)) ∧ AM st1 (mMade fD fb fs fc fp wd R)) (mB D vwCl 26 (celM cg) ad) (wA 26 ad)) args s 0 0 (wA 26 ad)) (F0 m 7 ls []) := by
    intro fuel
    induction fuel with
    | zero => intro q k hk hf hkf hAq hpp hmu; omega
    | succ fuel ih7 =>
      intro q k hk hf hkf hAq hpp hmu H locs ls hW hl
      refine lv_iload hx hb dX6_pools_7 (lv_at hl 3 rfl) ?_
      refine lv_aload_n hx hb dX6_pools_9 rfl (lv_at hl 0 rfl) ?_
      refine mk_get (ci := 6) (C := RX6) (T := TX6) (N := 30) hx hb hts inX6 hown hK hW 0 (by decide) rfl rfl 12 (by decide) fl124 (fun _ h9 => h9) rfl dX6_pools_10 ?_
      refine mk_sayi (y := (st 0 12)) (by rw [hkf 12 (by decide)]) ?_
      refine mk_sayi (y := ((R : Nat) : Int)) hR ?_
      refine mk_icmp_ge (tgt := 258) hx hb dX6_pools_13 (by decide) (by omega) (by omega) (fun c_13 => ?_) (fun c_13 => ?_)
      · skip
        exact mk_retV hx hb hr hlocks hW (by
          have ek : k = R := by omega
          subst ek
          exact ⟨hf, hkf, hpp, by unfold mMade; rw [← List.append_assoc]; exact hAq⟩) dX6_pools_258
      · skip
        have hB := (left_nn (D := fD) (w := wd) (fun i => (hb0 i).1) (fun i => (hs0 i).1) R).1 k
        have hSn := (left_nn (D := fD) (w := wd) (fun i => (hb0 i).1) (fun i => (hs0 i).1) k).2 R
        have hBl := blw_le (D := fD) (w := wd) (fun i => (hb0 i).1) (fun i => (hs0 i).1) R k
        have hSl := slft_le (D := fD) (w := wd) (fun i => (hb0 i).1) (fun i => (hs0 i).1) k R
        have k6 := hb0 k
        have k9 := hs0 k
        have k8 := hc0 k
        have k11 := hp0 k
        have hkR : k < R := by omega
        have hU := pU_nn (D := fD) (w := wd) (fun i => (hb0 i).1) (fun i => (hs0 i).1) hh0 k (by omega)
        have hU2 := pU_has (D := fD) (w := wd) (fun i => (hb0 i).1) (fun i => (hs0 i).1) hh0 hkR
        have hU4 := pU_s fD fb fs wd R k
        have hU8 := pU_le (D := fD) (w := wd) (R := R) (fun i => (hb0 i).1) (fun i => (hs0 i).1) k
        have hb8 := sm_mono (f := fb) (m := k) (n := R) (fun k _ => (hb0 k).1) (by omega)
        have hc7 := sm_mono (f := fc) (m := k + 1) (n := R) (fun k _ => (hc0 k).1) (by omega)
        have hC3 := hC_bd (D := fD) (w := wd) (fun i => (hb0 i).1) (fun i => (hs0 i).1) (fun i => (hc0 i).1) hh0 hkR
        have hC4 := pC_bd (D := fD) (w := wd) (fun i => (hb0 i).1) (fun i => (hs0 i).1) (fun i => (hc0 i).1) hh0 k (by omega)
        have hC9 : hC fD fb fs fc wd R k = pC fD fb fs fc wd R k + prt (fc k) (fb k) (fb k - blw fD fb fs wd R k) (blw fD fb fs wd R k) := rfl
        have hMn0 := mPP_pre (D := fD) (b := fb) (s := fs) (c := fc) (p := fp) (w := wd) (R := R) (k + 1) R (by omega)
        obtain ⟨Mn, eMn⟩ : ∃ z, z = ((mSs fb fs fc fp R ++ mLL fD fb fs fc fp wd R R) ++ mPP fD fb fs fc fp wd R k).length := ⟨_, rfl⟩
        have hMn : q 0 22 = (Mn : Int) := by rw [eMn]; exact hAq.1
        have hMn7 := mPP_pre (D := fD) (b := fb) (s := fs) (c := fc) (p := fp) (w := wd) (R := R) k R (by omega)
        have hMn6 : Mn < 256 := by rw [eMn, List.length_append, List.length_append]; omega
        refine lv_aload_n hx hb dX6_pools_16 rfl (lv_at hl 0 rfl) ?_
        refine mk_get (ci := 6) (C := RX6) (T := TX6) (N := 30) hx hb hts inX6 hown hK hW 0 (by decide) rfl rfl 18 (by decide) fl61 (fun _ h9 => h9) rfl dX6_pools_17 ?_
        refine lv_iload hx hb dX6_pools_20 (lv_at hl 3 rfl) ?_
        refine mk_lald hx hb hK hW 16 (by decide) rfl 2 rfl (j := k) rfl (by omega) (by decide) dX6_pools_22 ?_
        refine mk_sayl (y := (st 16 k)) (by rw [hf 16 (by decide)]) ?_
        refine mk_sayl (y := (blw fD fb fs wd R k)) (hrw k (by omega)).2.2.2.2.1 ?_
        refine mk_lconst hx hb (0) rfl dX6_pools_23 ?_
        refine mk_lcmp hx hb dX6_pools_24 (by omega) (by omega) (fun z1 z1l z1e z1g z1r => ?_)
        refine mk_if_le (tgt := 80) hx hb dX6_pools_25 (by decide) (by omega) (fun c_25 => ?_) (fun c_25 => ?_)
        · skip
          have hb00 : blw fD fb fs wd R k = 0 := by omega
          have hh1 : pC fD fb fs fc wd R k = hC fD fb fs fc wd R k := by rw [hC9, hb00, prt_none]; omega
          have hh2 : pU fD fb fs wd R k = pU fD fb fs wd R k + blw fD fb fs wd R k := by omega
          have hl : lv_has ls 8 [(0, .ref (ad 0)), (1, .long (lI (pU fD fb fs wd R k + blw fD fb fs wd R k))), (3, .long (lI (hC fD fb fs fc wd R k))), (5, .int (iI ((k : Nat) : Int)))] := by rw [← hh1, ← hh2]; exact hl
          refine lv_aload_n hx hb dX6_pools_80 rfl (lv_at hl 0 rfl) ?_
          refine mk_get (ci := 6) (C := RX6) (T := TX6) (N := 30) hx hb hts inX6 hown hK hW 0 (by decide) rfl rfl 19 (by decide) fl64 (fun _ h9 => h9) rfl dX6_pools_81 ?_
          refine lv_iload hx hb dX6_pools_84 (lv_at hl 3 rfl) ?_
          refine mk_lald hx hb hK hW 17 (by decide) rfl 2 rfl (j := k) rfl (by omega) (by decide) dX6_pools_86 ?_
          refine mk_sayl (y := (st 17 k)) (by rw [hf 17 (by decide)]) ?_
          refine mk_sayl (y := (slft fD fb fs wd k R)) (hrw k (by omega)).2.2.2.2.2 ?_
          refine mk_lconst hx hb (0) rfl dX6_pools_87 ?_
          refine mk_lcmp hx hb dX6_pools_88 (by omega) (by omega) (fun z2 z2l z2e z2g z2r => ?_)
          refine mk_if_le (tgt := 236) hx hb dX6_pools_89 (by decide) (by omega) (fun c_89 => ?_) (fun c_89 => ?_)
          · skip
            refine lv_aload_n hx hb dX6_pools_236 rfl (lv_at hl 0 rfl) ?_
            refine mk_get (ci := 6) (C := RX6) (T := TX6) (N := 30) hx hb hts inX6 hown hK hW 0 (by decide) rfl rfl 20 (by decide) fl67 (fun _ h9 => h9) rfl dX6_pools_237 ?_
            refine lv_iload hx hb dX6_pools_240 (lv_at hl 3 rfl) ?_
            refine lv_lload_n hx hb dX6_pools_242 rfl (lv_at hl 1 rfl) ?_
            refine mk_last hx hb hK hW 18 (by decide) (fun _ => rfl) 2 rfl (j := k) rfl (by omega) (by decide) dX6_pools_243 (fun H locs hW => ?_)
            obtain ⟨st3, est3⟩ : ∃ z, z = stC q 18 (fnU (q 18) k (pU fD fb fs wd R k + blw fD fb fs wd R k)) := ⟨_, rfl⟩
            rw [← est3] at hW
            refine lv_aload_n hx hb dX6_pools_244 rfl (lv_at hl 0 rfl) ?_
            refine mk_get (ci := 6) (C := RX6) (T := TX6) (N := 30) hx hb hts inX6 hown hK hW 0 (by decide) rfl rfl 21 (by decide) fl70 (fun _ h9 => h9) rfl dX6_pools_245 ?_
            refine lv_iload hx hb dX6_pools_248 (lv_at hl 3 rfl) ?_
            refine lv_lload_n hx hb dX6_pools_250 rfl (lv_at hl 2 rfl) ?_
            refine mk_last hx hb hK hW 19 (by decide) (fun _ => rfl) 2 rfl (j := k) rfl (by omega) (by decide) dX6_pools_251 (fun H locs hW => ?_)
            obtain ⟨st4, est4⟩ : ∃ z, z = stC st3 19 (fnU (st3 19) k (hC fD fb fs fc wd R k)) := ⟨_, rfl⟩
            rw [← est4] at hW
            refine mk_iinc (w := ((k + 1 : Nat) : Int)) (lv' := [(5, .int (iI ((k + 1 : Nat) : Int))), (0, .ref (ad 0)), (1, .long (lI (pU fD fb fs wd R k + blw fD fb fs wd R k))), (3, .long (lI (hC fD fb fs fc wd R k)))]) hx hb dX6_pools_252 hl (k := 3) rfl (by omega) (by decide) rfl (fun ls hl => ?_)
            refine lv_goto (tgt := 7) hx hb dX6_pools_255 (by decide) ?_
            have eM : mPool fD fb fs fc fp wd R k = [] := if_neg (by omega)
            have hPC : pC fD fb fs fc wd R (k + 1) = hC fD fb fs fc wd R k := by rw [pC_s, if_neg (by omega)]; omega
            have hA3 : AM st4 ((mSs fb fs fc fp R ++ mLL fD fb fs fc fp wd R R) ++ mPP fD fb fs fc fp wd R (k + 1)) := by
              rw [mPP, eM, List.append_nil]
              exact hAq.fr (S := [18, 19]) (by rw [est4, est3]; exact (Fr.rf.st (by decide)).st (by decide)) (by rw [est4, est3]; rfl) (by decide)
            have hf3 : Fr [0, 18, 19, 20, 21, 22, 23, 24, 25] st st4 := by
              rw [est4, est3]; exact ((hf.st (by decide)).st (by decide))
            have hk3 : ∀ j, j ≠ 22 → st4 0 j = st 0 j := fun j hj => by
              have h8 : st4 0 = q 0 := by rw [est4, est3]; rfl
              rw [h8]; exact hkf j hj
            have v18 : st4 18 = fnU (q 18) k (pU fD fb fs wd R k + blw fD fb fs wd R k) := by rw [est4, est3]; rfl
            have v19 : st4 19 = fnU (q 19) k (hC fD fb fs fc wd R k) := by rw [est4, est3]; rfl
            have hp3 : ∀ i, i < k + 1 → st4 18 i = pU fD fb fs wd R (i + 1) ∧ st4 19 i = pC fD fb fs fc wd R (i + 1) := by
              intro i hi
              rw [v18, v19]
              rcases Nat.lt_or_ge i k with y | y
              · rw [fnU_ne (by omega), fnU_ne (by omega)]; exact hpp i y
              · rw [show i = k by omega, fnU_eq, fnU_eq, hU4, hPC]; exact ⟨by omega, rfl⟩
            have hl : lv_has ls 8 [(5, .int (iI ((k + 1 : Nat) : Int))), (0, .ref (ad 0)), (1, .long (lI (pU fD fb fs wd R (k + 1)))), (3, .long (lI (pC fD fb fs fc wd R (k + 1))))] := by rw [hU4, hPC, show slft fD fb fs wd k R = 0 by omega, Int.sub_zero]; exact hl
            exact ih7 st4 (k + 1) (by omega) hf3 hk3 hA3 hp3 (by omega) _ _ _ hW (lv_sub hl [1, 2, 3, 0] rfl)
          · skip
            refine lv_lload_n hx hb dX6_pools_92 rfl (lv_at hl 2 rfl) ?_
            refine lv_aload_n hx hb dX6_pools_93 rfl (lv_at hl 0 rfl) ?_
            refine mk_get (ci := 6) (C := RX6) (T := TX6) (N := 30) hx hb hts inX6 hown hK hW 0 (by decide) rfl rfl 19 (by decide) fl64 (fun _ h9 => h9) rfl dX6_pools_94 ?_
            refine lv_iload hx hb dX6_pools_97 (lv_at hl 3 rfl) ?_
            refine mk_lald hx hb hK hW 17 (by decide) rfl 2 rfl (j := k) rfl (by omega) (by decide) dX6_pools_99 ?_
            refine mk_sayl (y := (st 17 k)) (by rw [hf 17 (by decide)]) ?_
            refine mk_sayl (y := (slft fD fb fs wd k R)) (hrw k (by omega)).2.2.2.2.2 ?_
            refine mk_lmul hx hb dX6_pools_100 ?_
            refine lv_lload_n hx hb dX6_pools_101 rfl (lv_at hl 1 rfl) ?_
            refine mk_ldiv hx hb dX6_pools_102 ⟨Int.mul_nonneg hC3.1 hSn, by have h9 : hC fD fb fs fc wd R k * slft fD fb fs wd k R ≤ 60000000 * 37500000 := Int.mul_le_mul (by omega) (by omega) hSn (by omega); omega⟩ (by omega) ?_
            refine mk_sayl (y := (tkC fD fb fs fc wd R k)) rfl ?_
            refine lv_lstore (lv' := [(6, .long (lI (tkC fD fb fs fc wd R k))), (0, .ref (ad 0)), (1, .long (lI (pU fD fb fs wd R k + blw fD fb fs wd R k))), (3, .long (lI (hC fD fb fs fc wd R k))), (5, .int (iI ((k : Nat) : Int)))]) hx hb dX6_pools_103 hl (by decide) rfl (fun ls hl => ?_)
            refine lv_aload_n hx hb dX6_pools_105 rfl (lv_at hl 1 rfl) ?_
            refine mk_get (ci := 6) (C := RX6) (T := TX6) (N := 30) hx hb hts inX6 hown hK hW 0 (by decide) rfl rfl 23 (by decide) fl73 (fun _ h9 => h9) rfl dX6_pools_106 ?_
            refine lv_aload_n hx hb dX6_pools_109 rfl (lv_at hl 1 rfl) ?_
            refine mk_get (ci := 6) (C := RX6) (T := TX6) (N := 30) hx hb hts inX6 hown hK hW 0 (by decide) rfl rfl 22 (by decide) fl127 (fun _ h9 => h9) rfl dX6_pools_110 ?_
            refine mk_sayi (y := ((Mn : Nat) : Int)) hMn ?_
            refine lv_iload hx hb dX6_pools_113 (lv_at hl 4 rfl) ?_
            refine mk_iast hx hb hK hW 20 (by decide) (fun _ => rfl) 0 rfl (j := Mn) rfl (by omega) (by decide) dX6_pools_115 (fun H locs hW => ?_)
            obtain ⟨st5, est5⟩ : ∃ z, z = stC q 20 (fnU (q 20) Mn ((k : Nat) : Int)) := ⟨_, rfl⟩
            rw [← est5] at hW
            refine lv_aload_n hx hb dX6_pools_116 rfl (lv_at hl 1 rfl) ?_
            refine mk_get (ci := 6) (C := RX6) (T := TX6) (N := 30) hx hb hts inX6 hown hK hW 0 (by decide) rfl rfl 24 (by decide) fl76 (fun _ h9 => h9) rfl dX6_pools_117 ?_
            refine lv_aload_n hx hb dX6_pools_120 rfl (lv_at hl 1 rfl) ?_
            refine mk_get (ci := 6) (C := RX6) (T := TX6) (N := 30) hx hb hts inX6 hown hK hW 0 (by decide) rfl rfl 22 (by decide) fl127 (fun _ h9 => h9) rfl dX6_pools_121 ?_
            refine mk_sayi (y := (q 0 22)) (by rw [show st5 0 = q 0 from by rw [est5]; exact stC_ne (by decide)]) ?_
            refine mk_sayi (y := ((Mn : Nat) : Int)) hMn ?_
            refine mk_iconst hx hb (-1) dX6_pools_124 ?_
            refine mk_iast hx hb hK hW 21 (by decide) (fun _ => rfl) 0 rfl (j := Mn) rfl (by omega) (by decide) dX6_pools_125 (fun H locs hW => ?_)
            obtain ⟨st6, est6⟩ : ∃ z, z = stC st5 21 (fnU (st5 21) Mn (-1 : Int)) := ⟨_, rfl⟩
            rw [← est6] at hW
            refine lv_aload_n hx hb dX6_pools_126 rfl (lv_at hl 1 rfl) ?_
            refine mk_get (ci := 6) (C := RX6) (T := TX6) (N := 30) hx hb hts inX6 hown hK hW 0 (by decide) rfl rfl 25 (by decide) fl79 (fun _ h9 => h9) rfl dX6_pools_127 ?_
            refine lv_aload_n hx hb dX6_pools_130 rfl (lv_at hl 1 rfl) ?_
            refine mk_get (ci := 6) (C := RX6) (T := TX6) (N := 30) hx hb hts inX6 hown hK hW 0 (by decide) rfl rfl 22 (by decide) fl127 (fun _ h9 => h9) rfl dX6_pools_131 ?_
            refine mk_sayi (y := (q 0 22)) (by rw [show st6 0 = st5 0 from by rw [est6]; exact stC_ne (by decide), show st5 0 = q 0 from by rw [est5]; exact stC_ne (by decide)]) ?_
            refine mk_sayi (y := ((Mn : Nat) : Int)) hMn ?_
            refine mk_iconst hx hb (2) dX6_pools_134 ?_
            refine mk_iast hx hb hK hW 22 (by decide) (fun _ => rfl) 0 rfl (j := Mn) rfl (by omega) (by decide) dX6_pools_135 (fun H locs hW => ?_)
            obtain ⟨st7, est7⟩ : ∃ z, z = stC st6 22 (fnU (st6 22) Mn 2) := ⟨_, rfl⟩
            rw [← est7] at hW
            refine lv_aload_n hx hb dX6_pools_136 rfl (lv_at hl 1 rfl) ?_
            refine mk_get (ci := 6) (C := RX6) (T := TX6) (N := 30) hx hb hts inX6 hown hK hW 0 (by decide) rfl rfl 26 (by decide) fl82 (fun _ h9 => h9) rfl dX6_pools_137 ?_
            refine lv_aload_n hx hb dX6_pools_140 rfl (lv_at hl 1 rfl) ?_
            refine mk_get (ci := 6) (C := RX6) (T := TX6) (N := 30) hx hb hts inX6 hown hK hW 0 (by decide) rfl rfl 22 (by decide) fl127 (fun _ h9 => h9) rfl dX6_pools_141 ?_
            refine mk_sayi (y := (q 0 22)) (by rw [show st7 0 = st6 0 from by rw [est7]; exact stC_ne (by decide), show st6 0 = st5 0 from by rw [est6]; exact stC_ne (by decide), show st5 0 = q 0 from by rw [est5]; exact stC_ne (by decide)]) ?_
            refine mk_sayi (y := ((Mn : Nat) : Int)) hMn ?_
            refine lv_aload_n hx hb dX6_pools_144 rfl (lv_at hl 1 rfl) ?_
            refine mk_get (ci := 6) (C := RX6) (T := TX6) (N := 30) hx hb hts inX6 hown hK hW 0 (by decide) rfl rfl 19 (by decide) fl64 (fun _ h9 => h9) rfl dX6_pools_145 ?_
            refine lv_iload hx hb dX6_pools_148 (lv_at hl 4 rfl) ?_
            refine mk_lald hx hb hK hW 17 (by decide) rfl 2 rfl (j := k) rfl (by omega) (by decide) dX6_pools_150 ?_
            refine mk_sayl (y := (st 17 k)) (by rw [show st7 17 = st6 17 from by rw [est7]; exact stC_ne (by decide), show st6 17 = st5 17 from by rw [est6]; exact stC_ne (by decide), show st5 17 = q 17 from by rw [est5]; exact stC_ne (by decide), hf 17 (by decide)]) ?_
            refine mk_sayl (y := (slft fD fb fs wd k R)) (hrw k (by omega)).2.2.2.2.2 ?_
            refine mk_last hx hb hK hW 23 (by decide) (fun _ => rfl) 2 rfl (j := Mn) rfl (by omega) (by decide) dX6_pools_151 (fun H locs hW => ?_)
            obtain ⟨st8, est8⟩ : ∃ z, z = stC st7 23 (fnU (st7 23) Mn (slft fD fb fs wd k R)) := ⟨_, rfl⟩
            rw [← est8] at hW
            refine lv_aload_n hx hb dX6_pools_152 rfl (lv_at hl 1 rfl) ?_
            refine mk_get (ci := 6) (C := RX6) (T := TX6) (N := 30) hx hb hts inX6 hown hK hW 0 (by decide) rfl rfl 27 (by decide) fl85 (fun _ h9 => h9) rfl dX6_pools_153 ?_
            refine lv_aload_n hx hb dX6_pools_156 rfl (lv_at hl 1 rfl) ?_
            refine mk_get (ci := 6) (C := RX6) (T := TX6) (N := 30) hx hb hts inX6 hown hK hW 0 (by decide) rfl rfl 22 (by decide) fl127 (fun _ h9 => h9) rfl dX6_pools_157 ?_
            refine mk_sayi (y := (q 0 22)) (by rw [show st8 0 = st7 0 from by rw [est8]; exact stC_ne (by decide), show st7 0 = st6 0 from by rw [est7]; exact stC_ne (by decide), show st6 0 = st5 0 from by rw [est6]; exact stC_ne (by decide), show st5 0 = q 0 from by rw [est5]; exact stC_ne (by decide)]) ?_
            refine mk_sayi (y := ((Mn : Nat) : Int)) hMn ?_
            refine lv_lload hx hb dX6_pools_160 (lv_at hl 0 rfl) ?_
            refine mk_last hx hb hK hW 24 (by decide) (fun _ => rfl) 2 rfl (j := Mn) rfl (by omega) (by decide) dX6_pools_162 (fun H locs hW => ?_)
            obtain ⟨st9, est9⟩ : ∃ z, z = stC st8 24 (fnU (st8 24) Mn (tkC fD fb fs fc wd R k)) := ⟨_, rfl⟩
            rw [← est9] at hW
            refine lv_aload_n hx hb dX6_pools_163 rfl (lv_at hl 1 rfl) ?_
            refine mk_get (ci := 6) (C := RX6) (T := TX6) (N := 30) hx hb hts inX6 hown hK hW 0 (by decide) rfl rfl 28 (by decide) fl88 (fun _ h9 => h9) rfl dX6_pools_164 ?_
            refine lv_aload_n hx hb dX6_pools_167 rfl (lv_at hl 1 rfl) ?_
            refine mk_get (ci := 6) (C := RX6) (T := TX6) (N := 30) hx hb hts inX6 hown hK hW 0 (by decide) rfl rfl 22 (by decide) fl127 (fun _ h9 => h9) rfl dX6_pools_168 ?_
            refine mk_sayi (y := (q 0 22)) (by rw [show st9 0 = st8 0 from by rw [est9]; exact stC_ne (by decide), show st8 0 = st7 0 from by rw [est8]; exact stC_ne (by decide), show st7 0 = st6 0 from by rw [est7]; exact stC_ne (by decide), show st6 0 = st5 0 from by rw [est6]; exact stC_ne (by decide), show st5 0 = q 0 from by rw [est5]; exact stC_ne (by decide)]) ?_
            refine mk_sayi (y := ((Mn : Nat) : Int)) hMn ?_
            refine lv_aload_n hx hb dX6_pools_171 rfl (lv_at hl 1 rfl) ?_
            refine mk_get (ci := 6) (C := RX6) (T := TX6) (N := 30) hx hb hts inX6 hown hK hW 0 (by decide) rfl rfl 17 (by decide) fl58 (fun _ h9 => h9) rfl dX6_pools_172 ?_
            refine lv_iload hx hb dX6_pools_175 (lv_at hl 4 rfl) ?_
            refine mk_lald hx hb hK hW 15 (by decide) rfl 2 rfl (j := k) rfl (by omega) (by decide) dX6_pools_177 ?_
            refine mk_sayl (y := (st 15 k)) (by rw [show st9 15 = st8 15 from by rw [est9]; exact stC_ne (by decide), show st8 15 = st7 15 from by rw [est8]; exact stC_ne (by decide), show st7 15 = st6 15 from by rw [est7]; exact stC_ne (by decide), show st6 15 = st5 15 from by rw [est6]; exact stC_ne (by decide), show st5 15 = q 15 from by rw [est5]; exact stC_ne (by decide), hf 15 (by decide)]) ?_
            refine mk_sayl (y := (fp k)) (hrw k (by omega)).2.2.2.1 ?_
            refine lv_aload_n hx hb dX6_pools_178 rfl (lv_at hl 1 rfl) ?_
            refine mk_get (ci := 6) (C := RX6) (T := TX6) (N := 30) hx hb hts inX6 hown hK hW 0 (by decide) rfl rfl 16 (by decide) fl55 (fun _ h9 => h9) rfl dX6_pools_179 ?_
            refine lv_iload hx hb dX6_pools_182 (lv_at hl 4 rfl) ?_
            refine mk_lald hx hb hK hW 14 (by decide) rfl 2 rfl (j := k) rfl (by omega) (by decide) dX6_pools_184 ?_
            refine mk_sayl (y := (st 14 k)) (by rw [show st9 14 = st8 14 from by rw [est9]; exact stC_ne (by decide), show st8 14 = st7 14 from by rw [est8]; exact stC_ne (by decide), show st7 14 = st6 14 from by rw [est7]; exact stC_ne (by decide), show st6 14 = st5 14 from by rw [est6]; exact stC_ne (by decide), show st5 14 = q 14 from by rw [est5]; exact stC_ne (by decide), hf 14 (by decide)]) ?_
            refine mk_sayl (y := (fs k)) (hrw k (by omega)).2.2.1 ?_
            refine lv_aload_n hx hb dX6_pools_185 rfl (lv_at hl 1 rfl) ?_
            refine mk_get (ci := 6) (C := RX6) (T := TX6) (N := 30) hx hb hts inX6 hown hK hW 0 (by decide) rfl rfl 16 (by decide) fl55 (fun _ h9 => h9) rfl dX6_pools_186 ?_
            refine lv_iload hx hb dX6_pools_189 (lv_at hl 4 rfl) ?_
            refine mk_lald hx hb hK hW 14 (by decide) rfl 2 rfl (j := k) rfl (by omega) (by decide) dX6_pools_191 ?_
            refine mk_sayl (y := (st 14 k)) (by rw [show st9 14 = st8 14 from by rw [est9]; exact stC_ne (by decide), show st8 14 = st7 14 from by rw [est8]; exact stC_ne (by decide), show st7 14 = st6 14 from by rw [est7]; exact stC_ne (by decide), show st6 14 = st5 14 from by rw [est6]; exact stC_ne (by decide), show st5 14 = q 14 from by rw [est5]; exact stC_ne (by decide), hf 14 (by decide)]) ?_
            refine mk_sayl (y := (fs k)) (hrw k (by omega)).2.2.1 ?_
            refine lv_aload_n hx hb dX6_pools_192 rfl (lv_at hl 1 rfl) ?_
            refine mk_get (ci := 6) (C := RX6) (T := TX6) (N := 30) hx hb hts inX6 hown hK hW 0 (by decide) rfl rfl 19 (by decide) fl64 (fun _ h9 => h9) rfl dX6_pools_193 ?_
            refine lv_iload hx hb dX6_pools_196 (lv_at hl 4 rfl) ?_
            refine mk_lald hx hb hK hW 17 (by decide) rfl 2 rfl (j := k) rfl (by omega) (by decide) dX6_pools_198 ?_
            refine mk_sayl (y := (st 17 k)) (by rw [show st9 17 = st8 17 from by rw [est9]; exact stC_ne (by decide), show st8 17 = st7 17 from by rw [est8]; exact stC_ne (by decide), show st7 17 = st6 17 from by rw [est7]; exact stC_ne (by decide), show st6 17 = st5 17 from by rw [est6]; exact stC_ne (by decide), show st5 17 = q 17 from by rw [est5]; exact stC_ne (by decide), hf 17 (by decide)]) ?_
            refine mk_sayl (y := (slft fD fb fs wd k R)) (hrw k (by omega)).2.2.2.2.2 ?_
            refine mk_lsub hx hb dX6_pools_199 ?_
            refine lv_aload_n hx hb dX6_pools_200 rfl (lv_at hl 1 rfl) ?_
            refine mk_get (ci := 6) (C := RX6) (T := TX6) (N := 30) hx hb hts inX6 hown hK hW 0 (by decide) rfl rfl 19 (by decide) fl64 (fun _ h9 => h9) rfl dX6_pools_201 ?_
            refine lv_iload hx hb dX6_pools_204 (lv_at hl 4 rfl) ?_
            refine mk_lald hx hb hK hW 17 (by decide) rfl 2 rfl (j := k) rfl (by omega) (by decide) dX6_pools_206 ?_
            refine mk_sayl (y := (st 17 k)) (by rw [show st9 17 = st8 17 from by rw [est9]; exact stC_ne (by decide), show st8 17 = st7 17 from by rw [est8]; exact stC_ne (by decide), show st7 17 = st6 17 from by rw [est7]; exact stC_ne (by decide), show st6 17 = st5 17 from by rw [est6]; exact stC_ne (by decide), show st5 17 = q 17 from by rw [est5]; exact stC_ne (by decide), hf 17 (by decide)]) ?_
            refine mk_sayl (y := (slft fD fb fs wd k R)) (hrw k (by omega)).2.2.2.2.2 ?_
            refine mk_goJ (va_runS (As := [.long (lI (fp k)), .long (lI (fs k)), .long (lI ((fs k) - (slft fD fb fs wd k R))), .long (lI (slft fD fb fs wd k R))]) (rest := [.int (iI ((Mn : Nat) : Int)), .ref (ad 25)]) ⟨hx, hb, hml, hown, hts⟩ (c_X6_part l cg D ad st9 (fp k) (fs k) (fs k - slft fD fb fs wd k R) (slft fD fb fs wd k R) (by omega) (by omega) (by omega) (by omega)) (cwS 4 hts gX6_pools_X6_part rfl rfl rfl (by decide +kernel) ⟨Nat.le_of_ble_eq_true rfl, Nat.le_of_ble_eq_true rfl⟩) (mk_preS hK hN hW) rfl rfl hl.1 rfl (lv_room (Nat.le_of_ble_eq_true rfl)) dX6_pools_207 ⟨Nat.zero_le _, Nat.zero_le _⟩) hW (fun z2 st10 hp207 H locs hW => ?_)
            obtain ⟨est10, hz2⟩ := hp207
            rw [est10] at hW
            refine mk_last hx hb hK hW 25 (by decide) (fun _ => rfl) 2 rfl (j := Mn) rfl (by omega) (by decide) dX6_pools_210 (fun H locs hW => ?_)
            obtain ⟨st11, est11⟩ : ∃ z, z = stC st9 25 (fnU (st9 25) Mn z2) := ⟨_, rfl⟩
            rw [← est11] at hW
            refine lv_aload_n hx hb dX6_pools_211 rfl (lv_at hl 1 rfl) ?_
            refine lv_dup hx hb dX6_pools_212 rfl ?_
            refine mk_get (ci := 6) (C := RX6) (T := TX6) (N := 30) hx hb hts inX6 hown hK hW 0 (by decide) rfl rfl 22 (by decide) fl127 (fun _ h9 => h9) rfl dX6_pools_213 ?_
            refine mk_sayi (y := (q 0 22)) (by rw [show st11 0 = st9 0 from by rw [est11]; exact stC_ne (by decide), show st9 0 = st8 0 from by rw [est9]; exact stC_ne (by decide), show st8 0 = st7 0 from by rw [est8]; exact stC_ne (by decide), show st7 0 = st6 0 from by rw [est7]; exact stC_ne (by decide), show st6 0 = st5 0 from by rw [est6]; exact stC_ne (by decide), show st5 0 = q 0 from by rw [est5]; exact stC_ne (by decide)]) ?_
            refine mk_sayi (y := ((Mn : Nat) : Int)) hMn ?_
            refine mk_iconst hx hb (1) dX6_pools_216 ?_
            refine mk_iadd hx hb dX6_pools_217 ?_
            refine mk_put (ci := 6) (C := RX6) (T := TX6) (N := 30) hx hb hts inX6 tyX6 tyX6_ok nmX6 hown hK hW 0 (by decide) rfl rfl 22 (by decide) fl127 (fun _ h9 => h9) rfl (by decide +kernel) (Nat.le_of_ble_eq_true rfl) rfl dX6_pools_218 (fun H locs hW => ?_)
            obtain ⟨st12, est12⟩ : ∃ z, z = stC st11 0 (fnU (st11 0) 22 (((Mn : Nat) : Int) + 1)) := ⟨_, rfl⟩
            rw [← est12] at hW
            refine lv_lload_n hx hb dX6_pools_221 rfl (lv_at hl 3 rfl) ?_
            refine lv_lload hx hb dX6_pools_222 (lv_at hl 0 rfl) ?_
            refine mk_lsub hx hb dX6_pools_224 ?_
            refine lv_lstore_n (lv' := [(3, .long (lI ((hC fD fb fs fc wd R k) - (tkC fD fb fs fc wd R k)))), (6, .long (lI (tkC fD fb fs fc wd R k))), (0, .ref (ad 0)), (1, .long (lI (pU fD fb fs wd R k + blw fD fb fs wd R k))), (5, .int (iI ((k : Nat) : Int)))]) hx hb dX6_pools_225 rfl hl (by decide) rfl (fun ls hl => ?_)
            refine lv_lload_n hx hb dX6_pools_226 rfl (lv_at hl 3 rfl) ?_
            refine lv_aload_n hx hb dX6_pools_227 rfl (lv_at hl 2 rfl) ?_
            refine mk_get (ci := 6) (C := RX6) (T := TX6) (N := 30) hx hb hts inX6 hown hK hW 0 (by decide) rfl rfl 19 (by decide) fl64 (fun _ h9 => h9) rfl dX6_pools_228 ?_
            refine lv_iload hx hb dX6_pools_231 (lv_at hl 4 rfl) ?_
            refine mk_lald hx hb hK hW 17 (by decide) rfl 2 rfl (j := k) rfl (by omega) (by decide) dX6_pools_233 ?_
            refine mk_sayl (y := (st 17 k)) (by rw [show st12 17 = st11 17 from by rw [est12]; exact stC_ne (by decide), show st11 17 = st9 17 from by rw [est11]; exact stC_ne (by decide), show st9 17 = st8 17 from by rw [est9]; exact stC_ne (by decide), show st8 17 = st7 17 from by rw [est8]; exact stC_ne (by decide), show st7 17 = st6 17 from by rw [est7]; exact stC_ne (by decide), show st6 17 = st5 17 from by rw [est6]; exact stC_ne (by decide), show st5 17 = q 17 from by rw [est5]; exact stC_ne (by decide), hf 17 (by decide)]) ?_
            refine mk_sayl (y := (slft fD fb fs wd k R)) (hrw k (by omega)).2.2.2.2.2 ?_
            refine mk_lsub hx hb dX6_pools_234 ?_
            refine lv_lstore_n (lv' := [(1, .long (lI ((pU fD fb fs wd R k + blw fD fb fs wd R k) - (slft fD fb fs wd k R)))), (3, .long (lI ((hC fD fb fs fc wd R k) - (tkC fD fb fs fc wd R k)))), (6, .long (lI (tkC fD fb fs fc wd R k))), (0, .ref (ad 0)), (5, .int (iI ((k : Nat) : Int)))]) hx hb dX6_pools_235 rfl hl (by decide) rfl (fun ls hl => ?_)
            refine lv_aload_n hx hb dX6_pools_236 rfl (lv_at hl 3 rfl) ?_
            refine mk_get (ci := 6) (C := RX6) (T := TX6) (N := 30) hx hb hts inX6 hown hK hW 0 (by decide) rfl rfl 20 (by decide) fl67 (fun _ h9 => h9) rfl dX6_pools_237 ?_
            refine lv_iload hx hb dX6_pools_240 (lv_at hl 4 rfl) ?_
            refine lv_lload_n hx hb dX6_pools_242 rfl (lv_at hl 0 rfl) ?_
            refine mk_last hx hb hK hW 18 (by decide) (fun _ => rfl) 2 rfl (j := k) rfl (by omega) (by decide) dX6_pools_243 (fun H locs hW => ?_)
            obtain ⟨st13, est13⟩ : ∃ z, z = stC st12 18 (fnU (st12 18) k ((pU fD fb fs wd R k + blw fD fb fs wd R k) - (slft fD fb fs wd k R))) := ⟨_, rfl⟩
            rw [← est13] at hW
            refine lv_aload_n hx hb dX6_pools_244 rfl (lv_at hl 3 rfl) ?_
            refine mk_get (ci := 6) (C := RX6) (T := TX6) (N := 30) hx hb hts inX6 hown hK hW 0 (by decide) rfl rfl 21 (by decide) fl70 (fun _ h9 => h9) rfl dX6_pools_245 ?_
            refine lv_iload hx hb dX6_pools_248 (lv_at hl 4 rfl) ?_
            refine lv_lload_n hx hb dX6_pools_250 rfl (lv_at hl 1 rfl) ?_
            refine mk_last hx hb hK hW 19 (by decide) (fun _ => rfl) 2 rfl (j := k) rfl (by omega) (by decide) dX6_pools_251 (fun H locs hW => ?_)
            obtain ⟨st14, est14⟩ : ∃ z, z = stC st13 19 (fnU (st13 19) k ((hC fD fb fs fc wd R k) - (tkC fD fb fs fc wd R k))) := ⟨_, rfl⟩
            rw [← est14] at hW
            refine mk_iinc (w := ((k + 1 : Nat) : Int)) (lv' := [(5, .int (iI ((k + 1 : Nat) : Int))), (1, .long (lI ((pU fD fb fs wd R k + blw fD fb fs wd R k) - (slft fD fb fs wd k R)))), (3, .long (lI ((hC fD fb fs fc wd R k) - (tkC fD fb fs fc wd R k)))), (6, .long (lI (tkC fD fb fs fc wd R k))), (0, .ref (ad 0))]) hx hb dX6_pools_252 hl (k := 4) rfl (by omega) (by decide) rfl (fun ls hl => ?_)
            refine lv_goto (tgt := 7) hx hb dX6_pools_255 (by decide) ?_
            have eM : mPool fD fb fs fc fp wd R k = [(k, -1, 2, slft fD fb fs wd k R, tkC fD fb fs fc wd R k, prt (fp k) (fs k) (fs k - slft fD fb fs wd k R) (slft fD fb fs wd k R))] := if_pos (by omega)
            have hPC : pC fD fb fs fc wd R (k + 1) = hC fD fb fs fc wd R k - tkC fD fb fs fc wd R k := by rw [pC_s, if_pos (by omega)]
            have eQ : st12 = addQ q Mn (k : Int) (-1) 2 (slft fD fb fs wd k R) (tkC fD fb fs fc wd R k) z2 := by subst est5; subst est6; subst est7; subst est8; subst est9; subst est11; subst est12; rfl
            have hA3 : AM st14 ((mSs fb fs fc fp R ++ mLL fD fb fs fc fp wd R R) ++ mPP fD fb fs fc fp wd R (k + 1)) := by
              rw [mPP, eM, ← List.append_assoc]
              have h9 := hAq.addQ (k := (k : Int)) (m := -1) (how := 2) (u := slft fD fb fs wd k R) (c := tkC fD fb fs fc wd R k) (p := z2) (k, -1, 2, slft fD fb fs wd k R, tkC fD fb fs fc wd R k, prt (fp k) (fs k) (fs k - slft fD fb fs wd k R) (slft fD fb fs wd k R)) rfl rfl rfl rfl rfl hz2
              rw [← eMn, ← eQ] at h9
              exact h9.fr (S := [18, 19]) (by rw [est14, est13]; exact (Fr.rf.st (by decide)).st (by decide)) (by rw [est14, est13]; rfl) (by decide)
            have hf3 : Fr [0, 18, 19, 20, 21, 22, 23, 24, 25] st st14 := by
              have h8 : Fr [0, 20, 21, 22, 23, 24, 25] q st12 := by rw [eQ]; exact addQ_fr _ _ _ _ _ _ _ _
              rw [est14, est13]; exact (((hf.tr h8 [0, 18, 19, 20, 21, 22, 23, 24, 25] (by decide)).st (by decide)).st (by decide))
            have hk3 : ∀ j, j ≠ 22 → st14 0 j = st 0 j := fun j hj => by
              have h8 : st14 0 = fnU (q 0) 22 ((Mn : Int) + 1) := by rw [est14, est13, eQ]; rfl
              rw [h8, fnU_ne hj]; exact hkf j hj
            have v18 : st14 18 = fnU (q 18) k (pU fD fb fs wd R k + blw fD fb fs wd R k - slft fD fb fs wd k R) := by rw [est14, est13, eQ]; rfl
            have v19 : st14 19 = fnU (q 19) k (hC fD fb fs fc wd R k - tkC fD fb fs fc wd R k) := by rw [est14, est13, eQ]; rfl
            have hp3 : ∀ i, i < k + 1 → st14 18 i = pU fD fb fs wd R (i + 1) ∧ st14 19 i = pC fD fb fs fc wd R (i + 1) := by
              intro i hi
              rw [v18, v19]
              rcases Nat.lt_or_ge i k with y | y
              · rw [fnU_ne (by omega), fnU_ne (by omega)]; exact hpp i y
              · rw [show i = k by omega, fnU_eq, fnU_eq, hU4, hPC]; exact ⟨by omega, rfl⟩
            have hl : lv_has ls 8 [(5, .int (iI ((k + 1 : Nat) : Int))), (1, .long (lI (pU fD fb fs wd R (k + 1)))), (3, .long (lI (pC fD fb fs fc wd R (k + 1)))), (6, .long (lI (tkC fD fb fs fc wd R k))), (0, .ref (ad 0))] := by rw [hU4, hPC]; exact hl
            exact ih7 st14 (k + 1) (by omega) hf3 hk3 hA3 hp3 (by omega) _ _ _ hW (lv_sub hl [4, 1, 2, 0] rfl)
        · skip
          refine lv_lload_n hx hb dX6_pools_28 rfl (lv_at hl 2 rfl) ?_
          refine lv_aload_n hx hb dX6_pools_29 rfl (lv_at hl 0 rfl) ?_
          refine mk_get (ci := 6) (C := RX6) (T := TX6) (N := 30) hx hb hts inX6 hown hK hW 0 (by decide) rfl rfl 15 (by decide) fl52 (fun _ h9 => h9) rfl dX6_pools_30 ?_
          refine lv_iload hx hb dX6_pools_33 (lv_at hl 3 rfl) ?_
          refine mk_lald hx hb hK hW 13 (by decide) rfl 2 rfl (j := k) rfl (by omega) (by decide) dX6_pools_35 ?_
          refine mk_sayl (y := (st 13 k)) (by rw [hf 13 (by decide)]) ?_
          refine mk_sayl (y := (fc k)) (hrw k (by omega)).2.1 ?_
          refine lv_aload_n hx hb dX6_pools_36 rfl (lv_at hl 0 rfl) ?_
          refine mk_get (ci := 6) (C := RX6) (T := TX6) (N := 30) hx hb hts inX6 hown hK hW 0 (by decide) rfl rfl 14 (by decide) fl48 (fun _ h9 => h9) rfl dX6_pools_37 ?_
          refine lv_iload hx hb dX6_pools_40 (lv_at hl 3 rfl) ?_
          refine mk_lald hx hb hK hW 12 (by decide) rfl 2 rfl (j := k) rfl (by omega) (by decide) dX6_pools_42 ?_
          refine mk_sayl (y := (st 12 k)) (by rw [hf 12 (by decide)]) ?_
          refine mk_sayl (y := (fb k)) (hrw k (by omega)).1 ?_
          refine lv_aload_n hx hb dX6_pools_43 rfl (lv_at hl 0 rfl) ?_
          refine mk_get (ci := 6) (C := RX6) (T := TX6) (N := 30) hx hb hts inX6 hown hK hW 0 (by decide) rfl rfl 14 (by decide) fl48 (fun _ h9 => h9) rfl dX6_pools_44 ?_
          refine lv_iload hx hb dX6_pools_47 (lv_at hl 3 rfl) ?_
          refine mk_lald hx hb hK hW 12 (by decide) rfl 2 rfl (j := k) rfl (by omega) (by decide) dX6_pools_49 ?_
          refine mk_sayl (y := (st 12 k)) (by rw [hf 12 (by decide)]) ?_
          refine mk_sayl (y := (fb k)) (hrw k (by omega)).1 ?_
          refine lv_aload_n hx hb dX6_pools_50 rfl (lv_at hl 0 rfl) ?_
          refine mk_get (ci := 6) (C := RX6) (T := TX6) (N := 30) hx hb hts inX6 hown hK hW 0 (by decide) rfl rfl 18 (by decide) fl61 (fun _ h9 => h9) rfl dX6_pools_51 ?_
          refine lv_iload hx hb dX6_pools_54 (lv_at hl 3 rfl) ?_
          refine mk_lald hx hb hK hW 16 (by decide) rfl 2 rfl (j := k) rfl (by omega) (by decide) dX6_pools_56 ?_
          refine mk_sayl (y := (st 16 k)) (by rw [hf 16 (by decide)]) ?_
          refine mk_sayl (y := (blw fD fb fs wd R k)) (hrw k (by omega)).2.2.2.2.1 ?_
          refine mk_lsub hx hb dX6_pools_57 ?_
          refine lv_aload_n hx hb dX6_pools_58 rfl (lv_at hl 0 rfl) ?_
          refine mk_get (ci := 6) (C := RX6) (T := TX6) (N := 30) hx hb hts inX6 hown hK hW 0 (by decide) rfl rfl 18 (by decide) fl61 (fun _ h9 => h9) rfl dX6_pools_59 ?_
          refine lv_iload hx hb dX6_pools_62 (lv_at hl 3 rfl) ?_
          refine mk_lald hx hb hK hW 16 (by decide) rfl 2 rfl (j := k) rfl (by omega) (by decide) dX6_pools_64 ?_
          refine mk_sayl (y := (st 16 k)) (by rw [hf 16 (by decide)]) ?_
          refine mk_sayl (y := (blw fD fb fs wd R k)) (hrw k (by omega)).2.2.2.2.1 ?_
          refine mk_goJ (va_runS (As := [.long (lI (fc k)), .long (lI (fb k)), .long (lI ((fb k) - (blw fD fb fs wd R k))), .long (lI (blw fD fb fs wd R k))]) (rest := [.long (lI (pC fD fb fs fc wd R k))]) ⟨hx, hb, hml, hown, hts⟩ (c_X6_part l cg D ad q (fc k) (fb k) (fb k - blw fD fb fs wd R k) (blw fD fb fs wd R k) (by omega) (by omega) (by omega) (by omega)) (cwS 4 hts gX6_pools_X6_part rfl rfl rfl (by decide +kernel) ⟨Nat.le_of_ble_eq_true rfl, Nat.le_of_ble_eq_true rfl⟩) (mk_preS hK hN hW) rfl rfl hl.1 rfl (lv_room (Nat.le_of_ble_eq_true rfl)) dX6_pools_65 ⟨Nat.zero_le _, Nat.zero_le _⟩) hW (fun z1 st15 hp65 H locs hW => ?_)
          obtain ⟨est15, hz1⟩ := hp65
          rw [est15] at hW
          refine mk_ladd hx hb dX6_pools_68 ?_
          refine lv_lstore_n (lv' := [(3, .long (lI ((pC fD fb fs fc wd R k) + z1))), (0, .ref (ad 0)), (1, .long (lI (pU fD fb fs wd R k))), (5, .int (iI ((k : Nat) : Int)))]) hx hb dX6_pools_69 rfl hl (by decide) rfl (fun ls hl => ?_)
          refine lv_lload_n hx hb dX6_pools_70 rfl (lv_at hl 2 rfl) ?_
          refine lv_aload_n hx hb dX6_pools_71 rfl (lv_at hl 1 rfl) ?_
          refine mk_get (ci := 6) (C := RX6) (T := TX6) (N := 30) hx hb hts inX6 hown hK hW 0 (by decide) rfl rfl 18 (by decide) fl61 (fun _ h9 => h9) rfl dX6_pools_72 ?_
          refine lv_iload hx hb dX6_pools_75 (lv_at hl 3 rfl) ?_
          refine mk_lald hx hb hK hW 16 (by decide) rfl 2 rfl (j := k) rfl (by omega) (by decide) dX6_pools_77 ?_
          refine mk_sayl (y := (st 16 k)) (by rw [hf 16 (by decide)]) ?_
          refine mk_sayl (y := (blw fD fb fs wd R k)) (hrw k (by omega)).2.2.2.2.1 ?_
          refine mk_ladd hx hb dX6_pools_78 ?_
          refine lv_lstore_n (lv' := [(1, .long (lI ((pU fD fb fs wd R k) + (blw fD fb fs wd R k)))), (3, .long (lI ((pC fD fb fs fc wd R k) + z1))), (0, .ref (ad 0)), (5, .int (iI ((k : Nat) : Int)))]) hx hb dX6_pools_79 rfl hl (by decide) rfl (fun ls hl => ?_)
          have hl : lv_has ls 8 [(1, .long (lI (pU fD fb fs wd R k + blw fD fb fs wd R k))), (3, .long (lI (hC fD fb fs fc wd R k))), (0, .ref (ad 0)), (5, .int (iI ((k : Nat) : Int)))] := by rw [hC9, ← hz1]; exact hl
          refine lv_aload_n hx hb dX6_pools_80 rfl (lv_at hl 2 rfl) ?_
          refine mk_get (ci := 6) (C := RX6) (T := TX6) (N := 30) hx hb hts inX6 hown hK hW 0 (by decide) rfl rfl 19 (by decide) fl64 (fun _ h9 => h9) rfl dX6_pools_81 ?_
          refine lv_iload hx hb dX6_pools_84 (lv_at hl 3 rfl) ?_
          refine mk_lald hx hb hK hW 17 (by decide) rfl 2 rfl (j := k) rfl (by omega) (by decide) dX6_pools_86 ?_
          refine mk_sayl (y := (st 17 k)) (by rw [hf 17 (by decide)]) ?_
          refine mk_sayl (y := (slft fD fb fs wd k R)) (hrw k (by omega)).2.2.2.2.2 ?_
          refine mk_lconst hx hb (0) rfl dX6_pools_87 ?_
          refine mk_lcmp hx hb dX6_pools_88 (by omega) (by omega) (fun z16 z16l z16e z16g z16r => ?_)
          refine mk_if_le (tgt := 236) hx hb dX6_pools_89 (by decide) (by omega) (fun c_89 => ?_) (fun c_89 => ?_)
          · skip
            refine lv_aload_n hx hb dX6_pools_236 rfl (lv_at hl 2 rfl) ?_
            refine mk_get (ci := 6) (C := RX6) (T := TX6) (N := 30) hx hb hts inX6 hown hK hW 0 (by decide) rfl rfl 20 (by decide) fl67 (fun _ h9 => h9) rfl dX6_pools_237 ?_
            refine lv_iload hx hb dX6_pools_240 (lv_at hl 3 rfl) ?_
            refine lv_lload_n hx hb dX6_pools_242 rfl (lv_at hl 0 rfl) ?_
            refine mk_last hx hb hK hW 18 (by decide) (fun _ => rfl) 2 rfl (j := k) rfl (by omega) (by decide) dX6_pools_243 (fun H locs hW => ?_)
            obtain ⟨st17, est17⟩ : ∃ z, z = stC q 18 (fnU (q 18) k (pU fD fb fs wd R k + blw fD fb fs wd R k)) := ⟨_, rfl⟩
            rw [← est17] at hW
            refine lv_aload_n hx hb dX6_pools_244 rfl (lv_at hl 2 rfl) ?_
            refine mk_get (ci := 6) (C := RX6) (T := TX6) (N := 30) hx hb hts inX6 hown hK hW 0 (by decide) rfl rfl 21 (by decide) fl70 (fun _ h9 => h9) rfl dX6_pools_245 ?_
            refine lv_iload hx hb dX6_pools_248 (lv_at hl 3 rfl) ?_
            refine lv_lload_n hx hb dX6_pools_250 rfl (lv_at hl 1 rfl) ?_
            refine mk_last hx hb hK hW 19 (by decide) (fun _ => rfl) 2 rfl (j := k) rfl (by omega) (by decide) dX6_pools_251 (fun H locs hW => ?_)
            obtain ⟨st18, est18⟩ : ∃ z, z = stC st17 19 (fnU (st17 19) k (hC fD fb fs fc wd R k)) := ⟨_, rfl⟩
            rw [← est18] at hW
            refine mk_iinc (w := ((k + 1 : Nat) : Int)) (lv' := [(5, .int (iI ((k + 1 : Nat) : Int))), (1, .long (lI (pU fD fb fs wd R k + blw fD fb fs wd R k))), (3, .long (lI (hC fD fb fs fc wd R k))), (0, .ref (ad 0))]) hx hb dX6_pools_252 hl (k := 3) rfl (by omega) (by decide) rfl (fun ls hl => ?_)
            refine lv_goto (tgt := 7) hx hb dX6_pools_255 (by decide) ?_
            have eM : mPool fD fb fs fc fp wd R k = [] := if_neg (by omega)
            have hPC : pC fD fb fs fc wd R (k + 1) = hC fD fb fs fc wd R k := by rw [pC_s, if_neg (by omega)]; omega
            have hA3 : AM st18 ((mSs fb fs fc fp R ++ mLL fD fb fs fc fp wd R R) ++ mPP fD fb fs fc fp wd R (k + 1)) := by
              rw [mPP, eM, List.append_nil]
              exact hAq.fr (S := [18, 19]) (by rw [est18, est17]; exact (Fr.rf.st (by decide)).st (by decide)) (by rw [est18, est17]; rfl) (by decide)
            have hf3 : Fr [0, 18, 19, 20, 21, 22, 23, 24, 25] st st18 := by
              rw [est18, est17]; exact ((hf.st (by decide)).st (by decide))
            have hk3 : ∀ j, j ≠ 22 → st18 0 j = st 0 j := fun j hj => by
              have h8 : st18 0 = q 0 := by rw [est18, est17]; rfl
              rw [h8]; exact hkf j hj
            have v18 : st18 18 = fnU (q 18) k (pU fD fb fs wd R k + blw fD fb fs wd R k) := by rw [est18, est17]; rfl
            have v19 : st18 19 = fnU (q 19) k (hC fD fb fs fc wd R k) := by rw [est18, est17]; rfl
            have hp3 : ∀ i, i < k + 1 → st18 18 i = pU fD fb fs wd R (i + 1) ∧ st18 19 i = pC fD fb fs fc wd R (i + 1) := by
              intro i hi
              rw [v18, v19]
              rcases Nat.lt_or_ge i k with y | y
              · rw [fnU_ne (by omega), fnU_ne (by omega)]; exact hpp i y
              · rw [show i = k by omega, fnU_eq, fnU_eq, hU4, hPC]; exact ⟨by omega, rfl⟩
            have hl : lv_has ls 8 [(5, .int (iI ((k + 1 : Nat) : Int))), (1, .long (lI (pU fD fb fs wd R (k + 1)))), (3, .long (lI (pC fD fb fs fc wd R (k + 1)))), (0, .ref (ad 0))] := by rw [hU4, hPC, show slft fD fb fs wd k R = 0 by omega, Int.sub_zero]; exact hl
            exact ih7 st18 (k + 1) (by omega) hf3 hk3 hA3 hp3 (by omega) _ _ _ hW (lv_sub hl [3, 1, 2, 0] rfl)
          · skip
            refine lv_lload_n hx hb dX6_pools_92 rfl (lv_at hl 1 rfl) ?_
            refine lv_aload_n hx hb dX6_pools_93 rfl (lv_at hl 2 rfl) ?_
            refine mk_get (ci := 6) (C := RX6) (T := TX6) (N := 30) hx hb hts inX6 hown hK hW 0 (by decide) rfl rfl 19 (by decide) fl64 (fun _ h9 => h9) rfl dX6_pools_94 ?_
            refine lv_iload hx hb dX6_pools_97 (lv_at hl 3 rfl) ?_
            refine mk_lald hx hb hK hW 17 (by decide) rfl 2 rfl (j := k) rfl (by omega) (by decide) dX6_pools_99 ?_
            refine mk_sayl (y := (st 17 k)) (by rw [hf 17 (by decide)]) ?_
            refine mk_sayl (y := (slft fD fb fs wd k R)) (hrw k (by omega)).2.2.2.2.2 ?_
            refine mk_lmul hx hb dX6_pools_100 ?_
            refine lv_lload_n hx hb dX6_pools_101 rfl (lv_at hl 0 rfl) ?_
            refine mk_ldiv hx hb dX6_pools_102 ⟨Int.mul_nonneg hC3.1 hSn, by have h9 : hC fD fb fs fc wd R k * slft fD fb fs wd k R ≤ 60000000 * 37500000 := Int.mul_le_mul (by omega) (by omega) hSn (by omega); omega⟩ (by omega) ?_
            refine mk_sayl (y := (tkC fD fb fs fc wd R k)) rfl ?_
            refine lv_lstore (lv' := [(6, .long (lI (tkC fD fb fs fc wd R k))), (1, .long (lI (pU fD fb fs wd R k + blw fD fb fs wd R k))), (3, .long (lI (hC fD fb fs fc wd R k))), (0, .ref (ad 0)), (5, .int (iI ((k : Nat) : Int)))]) hx hb dX6_pools_103 hl (by decide) rfl (fun ls hl => ?_)
            refine lv_aload_n hx hb dX6_pools_105 rfl (lv_at hl 3 rfl) ?_
            refine mk_get (ci := 6) (C := RX6) (T := TX6) (N := 30) hx hb hts inX6 hown hK hW 0 (by decide) rfl rfl 23 (by decide) fl73 (fun _ h9 => h9) rfl dX6_pools_106 ?_
            refine lv_aload_n hx hb dX6_pools_109 rfl (lv_at hl 3 rfl) ?_
            refine mk_get (ci := 6) (C := RX6) (T := TX6) (N := 30) hx hb hts inX6 hown hK hW 0 (by decide) rfl rfl 22 (by decide) fl127 (fun _ h9 => h9) rfl dX6_pools_110 ?_
            refine mk_sayi (y := ((Mn : Nat) : Int)) hMn ?_
            refine lv_iload hx hb dX6_pools_113 (lv_at hl 4 rfl) ?_
            refine mk_iast hx hb hK hW 20 (by decide) (fun _ => rfl) 0 rfl (j := Mn) rfl (by omega) (by decide) dX6_pools_115 (fun H locs hW => ?_)
            obtain ⟨st19, est19⟩ : ∃ z, z = stC q 20 (fnU (q 20) Mn ((k : Nat) : Int)) := ⟨_, rfl⟩
            rw [← est19] at hW
            refine lv_aload_n hx hb dX6_pools_116 rfl (lv_at hl 3 rfl) ?_
            refine mk_get (ci := 6) (C := RX6) (T := TX6) (N := 30) hx hb hts inX6 hown hK hW 0 (by decide) rfl rfl 24 (by decide) fl76 (fun _ h9 => h9) rfl dX6_pools_117 ?_
            refine lv_aload_n hx hb dX6_pools_120 rfl (lv_at hl 3 rfl) ?_
            refine mk_get (ci := 6) (C := RX6) (T := TX6) (N := 30) hx hb hts inX6 hown hK hW 0 (by decide) rfl rfl 22 (by decide) fl127 (fun _ h9 => h9) rfl dX6_pools_121 ?_
            refine mk_sayi (y := (q 0 22)) (by rw [show st19 0 = q 0 from by rw [est19]; exact stC_ne (by decide)]) ?_
            refine mk_sayi (y := ((Mn : Nat) : Int)) hMn ?_
            refine mk_iconst hx hb (-1) dX6_pools_124 ?_
            refine mk_iast hx hb hK hW 21 (by decide) (fun _ => rfl) 0 rfl (j := Mn) rfl (by omega) (by decide) dX6_pools_125 (fun H locs hW => ?_)
            obtain ⟨st20, est20⟩ : ∃ z, z = stC st19 21 (fnU (st19 21) Mn (-1 : Int)) := ⟨_, rfl⟩
            rw [← est20] at hW
            refine lv_aload_n hx hb dX6_pools_126 rfl (lv_at hl 3 rfl) ?_
            refine mk_get (ci := 6) (C := RX6) (T := TX6) (N := 30) hx hb hts inX6 hown hK hW 0 (by decide) rfl rfl 25 (by decide) fl79 (fun _ h9 => h9) rfl dX6_pools_127 ?_
            refine lv_aload_n hx hb dX6_pools_130 rfl (lv_at hl 3 rfl) ?_
            refine mk_get (ci := 6) (C := RX6) (T := TX6) (N := 30) hx hb hts inX6 hown hK hW 0 (by decide) rfl rfl 22 (by decide) fl127 (fun _ h9 => h9) rfl dX6_pools_131 ?_
            refine mk_sayi (y := (q 0 22)) (by rw [show st20 0 = st19 0 from by rw [est20]; exact stC_ne (by decide), show st19 0 = q 0 from by rw [est19]; exact stC_ne (by decide)]) ?_
            refine mk_sayi (y := ((Mn : Nat) : Int)) hMn ?_
            refine mk_iconst hx hb (2) dX6_pools_134 ?_
            refine mk_iast hx hb hK hW 22 (by decide) (fun _ => rfl) 0 rfl (j := Mn) rfl (by omega) (by decide) dX6_pools_135 (fun H locs hW => ?_)
            obtain ⟨st21, est21⟩ : ∃ z, z = stC st20 22 (fnU (st20 22) Mn 2) := ⟨_, rfl⟩
            rw [← est21] at hW
            refine lv_aload_n hx hb dX6_pools_136 rfl (lv_at hl 3 rfl) ?_
            refine mk_get (ci := 6) (C := RX6) (T := TX6) (N := 30) hx hb hts inX6 hown hK hW 0 (by decide) rfl rfl 26 (by decide) fl82 (fun _ h9 => h9) rfl dX6_pools_137 ?_
            refine lv_aload_n hx hb dX6_pools_140 rfl (lv_at hl 3 rfl) ?_
            refine mk_get (ci := 6) (C := RX6) (T := TX6) (N := 30) hx hb hts inX6 hown hK hW 0 (by decide) rfl rfl 22 (by decide) fl127 (fun _ h9 => h9) rfl dX6_pools_141 ?_
            refine mk_sayi (y := (q 0 22)) (by rw [show st21 0 = st20 0 from by rw [est21]; exact stC_ne (by decide), show st20 0 = st19 0 from by rw [est20]; exact stC_ne (by decide), show st19 0 = q 0 from by rw [est19]; exact stC_ne (by decide)]) ?_
            refine mk_sayi (y := ((Mn : Nat) : Int)) hMn ?_
            refine lv_aload_n hx hb dX6_pools_144 rfl (lv_at hl 3 rfl) ?_
            refine mk_get (ci := 6) (C := RX6) (T := TX6) (N := 30) hx hb hts inX6 hown hK hW 0 (by decide) rfl rfl 19 (by decide) fl64 (fun _ h9 => h9) rfl dX6_pools_145 ?_
            refine lv_iload hx hb dX6_pools_148 (lv_at hl 4 rfl) ?_
            refine mk_lald hx hb hK hW 17 (by decide) rfl 2 rfl (j := k) rfl (by omega) (by decide) dX6_pools_150 ?_
            refine mk_sayl (y := (st 17 k)) (by rw [show st21 17 = st20 17 from by rw [est21]; exact stC_ne (by decide), show st20 17 = st19 17 from by rw [est20]; exact stC_ne (by decide), show st19 17 = q 17 from by rw [est19]; exact stC_ne (by decide), hf 17 (by decide)]) ?_
            refine mk_sayl (y := (slft fD fb fs wd k R)) (hrw k (by omega)).2.2.2.2.2 ?_
            refine mk_last hx hb hK hW 23 (by decide) (fun _ => rfl) 2 rfl (j := Mn) rfl (by omega) (by decide) dX6_pools_151 (fun H locs hW => ?_)
            obtain ⟨st22, est22⟩ : ∃ z, z = stC st21 23 (fnU (st21 23) Mn (slft fD fb fs wd k R)) := ⟨_, rfl⟩
            rw [← est22] at hW
            refine lv_aload_n hx hb dX6_pools_152 rfl (lv_at hl 3 rfl) ?_
            refine mk_get (ci := 6) (C := RX6) (T := TX6) (N := 30) hx hb hts inX6 hown hK hW 0 (by decide) rfl rfl 27 (by decide) fl85 (fun _ h9 => h9) rfl dX6_pools_153 ?_
            refine lv_aload_n hx hb dX6_pools_156 rfl (lv_at hl 3 rfl) ?_
            refine mk_get (ci := 6) (C := RX6) (T := TX6) (N := 30) hx hb hts inX6 hown hK hW 0 (by decide) rfl rfl 22 (by decide) fl127 (fun _ h9 => h9) rfl dX6_pools_157 ?_
            refine mk_sayi (y := (q 0 22)) (by rw [show st22 0 = st21 0 from by rw [est22]; exact stC_ne (by decide), show st21 0 = st20 0 from by rw [est21]; exact stC_ne (by decide), show st20 0 = st19 0 from by rw [est20]; exact stC_ne (by decide), show st19 0 = q 0 from by rw [est19]; exact stC_ne (by decide)]) ?_
            refine mk_sayi (y := ((Mn : Nat) : Int)) hMn ?_
            refine lv_lload hx hb dX6_pools_160 (lv_at hl 0 rfl) ?_
            refine mk_last hx hb hK hW 24 (by decide) (fun _ => rfl) 2 rfl (j := Mn) rfl (by omega) (by decide) dX6_pools_162 (fun H locs hW => ?_)
            obtain ⟨st23, est23⟩ : ∃ z, z = stC st22 24 (fnU (st22 24) Mn (tkC fD fb fs fc wd R k)) := ⟨_, rfl⟩
            rw [← est23] at hW
            refine lv_aload_n hx hb dX6_pools_163 rfl (lv_at hl 3 rfl) ?_
            refine mk_get (ci := 6) (C := RX6) (T := TX6) (N := 30) hx hb hts inX6 hown hK hW 0 (by decide) rfl rfl 28 (by decide) fl88 (fun _ h9 => h9) rfl dX6_pools_164 ?_
            refine lv_aload_n hx hb dX6_pools_167 rfl (lv_at hl 3 rfl) ?_
            refine mk_get (ci := 6) (C := RX6) (T := TX6) (N := 30) hx hb hts inX6 hown hK hW 0 (by decide) rfl rfl 22 (by decide) fl127 (fun _ h9 => h9) rfl dX6_pools_168 ?_
            refine mk_sayi (y := (q 0 22)) (by rw [show st23 0 = st22 0 from by rw [est23]; exact stC_ne (by decide), show st22 0 = st21 0 from by rw [est22]; exact stC_ne (by decide), show st21 0 = st20 0 from by rw [est21]; exact stC_ne (by decide), show st20 0 = st19 0 from by rw [est20]; exact stC_ne (by decide), show st19 0 = q 0 from by rw [est19]; exact stC_ne (by decide)]) ?_
            refine mk_sayi (y := ((Mn : Nat) : Int)) hMn ?_
            refine lv_aload_n hx hb dX6_pools_171 rfl (lv_at hl 3 rfl) ?_
            refine mk_get (ci := 6) (C := RX6) (T := TX6) (N := 30) hx hb hts inX6 hown hK hW 0 (by decide) rfl rfl 17 (by decide) fl58 (fun _ h9 => h9) rfl dX6_pools_172 ?_
            refine lv_iload hx hb dX6_pools_175 (lv_at hl 4 rfl) ?_
            refine mk_lald hx hb hK hW 15 (by decide) rfl 2 rfl (j := k) rfl (by omega) (by decide) dX6_pools_177 ?_
            refine mk_sayl (y := (st 15 k)) (by rw [show st23 15 = st22 15 from by rw [est23]; exact stC_ne (by decide), show st22 15 = st21 15 from by rw [est22]; exact stC_ne (by decide), show st21 15 = st20 15 from by rw [est21]; exact stC_ne (by decide), show st20 15 = st19 15 from by rw [est20]; exact stC_ne (by decide), show st19 15 = q 15 from by rw [est19]; exact stC_ne (by decide), hf 15 (by decide)]) ?_
            refine mk_sayl (y := (fp k)) (hrw k (by omega)).2.2.2.1 ?_
            refine lv_aload_n hx hb dX6_pools_178 rfl (lv_at hl 3 rfl) ?_
            refine mk_get (ci := 6) (C := RX6) (T := TX6) (N := 30) hx hb hts inX6 hown hK hW 0 (by decide) rfl rfl 16 (by decide) fl55 (fun _ h9 => h9) rfl dX6_pools_179 ?_
            refine lv_iload hx hb dX6_pools_182 (lv_at hl 4 rfl) ?_
            refine mk_lald hx hb hK hW 14 (by decide) rfl 2 rfl (j := k) rfl (by omega) (by decide) dX6_pools_184 ?_
            refine mk_sayl (y := (st 14 k)) (by rw [show st23 14 = st22 14 from by rw [est23]; exact stC_ne (by decide), show st22 14 = st21 14 from by rw [est22]; exact stC_ne (by decide), show st21 14 = st20 14 from by rw [est21]; exact stC_ne (by decide), show st20 14 = st19 14 from by rw [est20]; exact stC_ne (by decide), show st19 14 = q 14 from by rw [est19]; exact stC_ne (by decide), hf 14 (by decide)]) ?_
            refine mk_sayl (y := (fs k)) (hrw k (by omega)).2.2.1 ?_
            refine lv_aload_n hx hb dX6_pools_185 rfl (lv_at hl 3 rfl) ?_
            refine mk_get (ci := 6) (C := RX6) (T := TX6) (N := 30) hx hb hts inX6 hown hK hW 0 (by decide) rfl rfl 16 (by decide) fl55 (fun _ h9 => h9) rfl dX6_pools_186 ?_
            refine lv_iload hx hb dX6_pools_189 (lv_at hl 4 rfl) ?_
            refine mk_lald hx hb hK hW 14 (by decide) rfl 2 rfl (j := k) rfl (by omega) (by decide) dX6_pools_191 ?_
            refine mk_sayl (y := (st 14 k)) (by rw [show st23 14 = st22 14 from by rw [est23]; exact stC_ne (by decide), show st22 14 = st21 14 from by rw [est22]; exact stC_ne (by decide), show st21 14 = st20 14 from by rw [est21]; exact stC_ne (by decide), show st20 14 = st19 14 from by rw [est20]; exact stC_ne (by decide), show st19 14 = q 14 from by rw [est19]; exact stC_ne (by decide), hf 14 (by decide)]) ?_
            refine mk_sayl (y := (fs k)) (hrw k (by omega)).2.2.1 ?_
            refine lv_aload_n hx hb dX6_pools_192 rfl (lv_at hl 3 rfl) ?_
            refine mk_get (ci := 6) (C := RX6) (T := TX6) (N := 30) hx hb hts inX6 hown hK hW 0 (by decide) rfl rfl 19 (by decide) fl64 (fun _ h9 => h9) rfl dX6_pools_193 ?_
            refine lv_iload hx hb dX6_pools_196 (lv_at hl 4 rfl) ?_
            refine mk_lald hx hb hK hW 17 (by decide) rfl 2 rfl (j := k) rfl (by omega) (by decide) dX6_pools_198 ?_
            refine mk_sayl (y := (st 17 k)) (by rw [show st23 17 = st22 17 from by rw [est23]; exact stC_ne (by decide), show st22 17 = st21 17 from by rw [est22]; exact stC_ne (by decide), show st21 17 = st20 17 from by rw [est21]; exact stC_ne (by decide), show st20 17 = st19 17 from by rw [est20]; exact stC_ne (by decide), show st19 17 = q 17 from by rw [est19]; exact stC_ne (by decide), hf 17 (by decide)]) ?_
            refine mk_sayl (y := (slft fD fb fs wd k R)) (hrw k (by omega)).2.2.2.2.2 ?_
            refine mk_lsub hx hb dX6_pools_199 ?_
            refine lv_aload_n hx hb dX6_pools_200 rfl (lv_at hl 3 rfl) ?_
            refine mk_get (ci := 6) (C := RX6) (T := TX6) (N := 30) hx hb hts inX6 hown hK hW 0 (by decide) rfl rfl 19 (by decide) fl64 (fun _ h9 => h9) rfl dX6_pools_201 ?_
            refine lv_iload hx hb dX6_pools_204 (lv_at hl 4 rfl) ?_
            refine mk_lald hx hb hK hW 17 (by decide) rfl 2 rfl (j := k) rfl (by omega) (by decide) dX6_pools_206 ?_
            refine mk_sayl (y := (st 17 k)) (by rw [show st23 17 = st22 17 from by rw [est23]; exact stC_ne (by decide), show st22 17 = st21 17 from by rw [est22]; exact stC_ne (by decide), show st21 17 = st20 17 from by rw [est21]; exact stC_ne (by decide), show st20 17 = st19 17 from by rw [est20]; exact stC_ne (by decide), show st19 17 = q 17 from by rw [est19]; exact stC_ne (by decide), hf 17 (by decide)]) ?_
            refine mk_sayl (y := (slft fD fb fs wd k R)) (hrw k (by omega)).2.2.2.2.2 ?_
            refine mk_goJ (va_runS (As := [.long (lI (fp k)), .long (lI (fs k)), .long (lI ((fs k) - (slft fD fb fs wd k R))), .long (lI (slft fD fb fs wd k R))]) (rest := [.int (iI ((Mn : Nat) : Int)), .ref (ad 25)]) ⟨hx, hb, hml, hown, hts⟩ (c_X6_part l cg D ad st23 (fp k) (fs k) (fs k - slft fD fb fs wd k R) (slft fD fb fs wd k R) (by omega) (by omega) (by omega) (by omega)) (cwS 4 hts gX6_pools_X6_part rfl rfl rfl (by decide +kernel) ⟨Nat.le_of_ble_eq_true rfl, Nat.le_of_ble_eq_true rfl⟩) (mk_preS hK hN hW) rfl rfl hl.1 rfl (lv_room (Nat.le_of_ble_eq_true rfl)) dX6_pools_207 ⟨Nat.zero_le _, Nat.zero_le _⟩) hW (fun z2 st24 hp207 H locs hW => ?_)
            obtain ⟨est24, hz2⟩ := hp207
            rw [est24] at hW
            refine mk_last hx hb hK hW 25 (by decide) (fun _ => rfl) 2 rfl (j := Mn) rfl (by omega) (by decide) dX6_pools_210 (fun H locs hW => ?_)
            obtain ⟨st25, est25⟩ : ∃ z, z = stC st23 25 (fnU (st23 25) Mn z2) := ⟨_, rfl⟩
            rw [← est25] at hW
            refine lv_aload_n hx hb dX6_pools_211 rfl (lv_at hl 3 rfl) ?_
            refine lv_dup hx hb dX6_pools_212 rfl ?_
            refine mk_get (ci := 6) (C := RX6) (T := TX6) (N := 30) hx hb hts inX6 hown hK hW 0 (by decide) rfl rfl 22 (by decide) fl127 (fun _ h9 => h9) rfl dX6_pools_213 ?_
            refine mk_sayi (y := (q 0 22)) (by rw [show st25 0 = st23 0 from by rw [est25]; exact stC_ne (by decide), show st23 0 = st22 0 from by rw [est23]; exact stC_ne (by decide), show st22 0 = st21 0 from by rw [est22]; exact stC_ne (by decide), show st21 0 = st20 0 from by rw [est21]; exact stC_ne (by decide), show st20 0 = st19 0 from by rw [est20]; exact stC_ne (by decide), show st19 0 = q 0 from by rw [est19]; exact stC_ne (by decide)]) ?_
            refine mk_sayi (y := ((Mn : Nat) : Int)) hMn ?_
            refine mk_iconst hx hb (1) dX6_pools_216 ?_
            refine mk_iadd hx hb dX6_pools_217 ?_
            refine mk_put (ci := 6) (C := RX6) (T := TX6) (N := 30) hx hb hts inX6 tyX6 tyX6_ok nmX6 hown hK hW 0 (by decide) rfl rfl 22 (by decide) fl127 (fun _ h9 => h9) rfl (by decide +kernel) (Nat.le_of_ble_eq_true rfl) rfl dX6_pools_218 (fun H locs hW => ?_)
            obtain ⟨st26, est26⟩ : ∃ z, z = stC st25 0 (fnU (st25 0) 22 (((Mn : Nat) : Int) + 1)) := ⟨_, rfl⟩
            rw [← est26] at hW
            refine lv_lload_n hx hb dX6_pools_221 rfl (lv_at hl 2 rfl) ?_
            refine lv_lload hx hb dX6_pools_222 (lv_at hl 0 rfl) ?_
            refine mk_lsub hx hb dX6_pools_224 ?_
            refine lv_lstore_n (lv' := [(3, .long (lI ((hC fD fb fs fc wd R k) - (tkC fD fb fs fc wd R k)))), (6, .long (lI (tkC fD fb fs fc wd R k))), (1, .long (lI (pU fD fb fs wd R k + blw fD fb fs wd R k))), (0, .ref (ad 0)), (5, .int (iI ((k : Nat) : Int)))]) hx hb dX6_pools_225 rfl hl (by decide) rfl (fun ls hl => ?_)
            refine lv_lload_n hx hb dX6_pools_226 rfl (lv_at hl 2 rfl) ?_
            refine lv_aload_n hx hb dX6_pools_227 rfl (lv_at hl 3 rfl) ?_
            refine mk_get (ci := 6) (C := RX6) (T := TX6) (N := 30) hx hb hts inX6 hown hK hW 0 (by decide) rfl rfl 19 (by decide) fl64 (fun _ h9 => h9) rfl dX6_pools_228 ?_
            refine lv_iload hx hb dX6_pools_231 (lv_at hl 4 rfl) ?_
            refine mk_lald hx hb hK hW 17 (by decide) rfl 2 rfl (j := k) rfl (by omega) (by decide) dX6_pools_233 ?_
            refine mk_sayl (y := (st 17 k)) (by rw [show st26 17 = st25 17 from by rw [est26]; exact stC_ne (by decide), show st25 17 = st23 17 from by rw [est25]; exact stC_ne (by decide), show st23 17 = st22 17 from by rw [est23]; exact stC_ne (by decide), show st22 17 = st21 17 from by rw [est22]; exact stC_ne (by decide), show st21 17 = st20 17 from by rw [est21]; exact stC_ne (by decide), show st20 17 = st19 17 from by rw [est20]; exact stC_ne (by decide), show st19 17 = q 17 from by rw [est19]; exact stC_ne (by decide), hf 17 (by decide)]) ?_
            refine mk_sayl (y := (slft fD fb fs wd k R)) (hrw k (by omega)).2.2.2.2.2 ?_
            refine mk_lsub hx hb dX6_pools_234 ?_
            refine lv_lstore_n (lv' := [(1, .long (lI ((pU fD fb fs wd R k + blw fD fb fs wd R k) - (slft fD fb fs wd k R)))), (3, .long (lI ((hC fD fb fs fc wd R k) - (tkC fD fb fs fc wd R k)))), (6, .long (lI (tkC fD fb fs fc wd R k))), (0, .ref (ad 0)), (5, .int (iI ((k : Nat) : Int)))]) hx hb dX6_pools_235 rfl hl (by decide) rfl (fun ls hl => ?_)
            refine lv_aload_n hx hb dX6_pools_236 rfl (lv_at hl 3 rfl) ?_
            refine mk_get (ci := 6) (C := RX6) (T := TX6) (N := 30) hx hb hts inX6 hown hK hW 0 (by decide) rfl rfl 20 (by decide) fl67 (fun _ h9 => h9) rfl dX6_pools_237 ?_
            refine lv_iload hx hb dX6_pools_240 (lv_at hl 4 rfl) ?_
            refine lv_lload_n hx hb dX6_pools_242 rfl (lv_at hl 0 rfl) ?_
            refine mk_last hx hb hK hW 18 (by decide) (fun _ => rfl) 2 rfl (j := k) rfl (by omega) (by decide) dX6_pools_243 (fun H locs hW => ?_)
            obtain ⟨st27, est27⟩ : ∃ z, z = stC st26 18 (fnU (st26 18) k ((pU fD fb fs wd R k + blw fD fb fs wd R k) - (slft fD fb fs wd k R))) := ⟨_, rfl⟩
            rw [← est27] at hW
            refine lv_aload_n hx hb dX6_pools_244 rfl (lv_at hl 3 rfl) ?_
            refine mk_get (ci := 6) (C := RX6) (T := TX6) (N := 30) hx hb hts inX6 hown hK hW 0 (by decide) rfl rfl 21 (by decide) fl70 (fun _ h9 => h9) rfl dX6_pools_245 ?_
            refine lv_iload hx hb dX6_pools_248 (lv_at hl 4 rfl) ?_
            refine lv_lload_n hx hb dX6_pools_250 rfl (lv_at hl 1 rfl) ?_
            refine mk_last hx hb hK hW 19 (by decide) (fun _ => rfl) 2 rfl (j := k) rfl (by omega) (by decide) dX6_pools_251 (fun H locs hW => ?_)
            obtain ⟨st28, est28⟩ : ∃ z, z = stC st27 19 (fnU (st27 19) k ((hC fD fb fs fc wd R k) - (tkC fD fb fs fc wd R k))) := ⟨_, rfl⟩
            rw [← est28] at hW
            refine mk_iinc (w := ((k + 1 : Nat) : Int)) (lv' := [(5, .int (iI ((k + 1 : Nat) : Int))), (1, .long (lI ((pU fD fb fs wd R k + blw fD fb fs wd R k) - (slft fD fb fs wd k R)))), (3, .long (lI ((hC fD fb fs fc wd R k) - (tkC fD fb fs fc wd R k)))), (6, .long (lI (tkC fD fb fs fc wd R k))), (0, .ref (ad 0))]) hx hb dX6_pools_252 hl (k := 4) rfl (by omega) (by decide) rfl (fun ls hl => ?_)
            refine lv_goto (tgt := 7) hx hb dX6_pools_255 (by decide) ?_
            have eM : mPool fD fb fs fc fp wd R k = [(k, -1, 2, slft fD fb fs wd k R, tkC fD fb fs fc wd R k, prt (fp k) (fs k) (fs k - slft fD fb fs wd k R) (slft fD fb fs wd k R))] := if_pos (by omega)
            have hPC : pC fD fb fs fc wd R (k + 1) = hC fD fb fs fc wd R k - tkC fD fb fs fc wd R k := by rw [pC_s, if_pos (by omega)]
            have eQ : st26 = addQ q Mn (k : Int) (-1) 2 (slft fD fb fs wd k R) (tkC fD fb fs fc wd R k) z2 := by subst est19; subst est20; subst est21; subst est22; subst est23; subst est25; subst est26; rfl
            have hA3 : AM st28 ((mSs fb fs fc fp R ++ mLL fD fb fs fc fp wd R R) ++ mPP fD fb fs fc fp wd R (k + 1)) := by
              rw [mPP, eM, ← List.append_assoc]
              have h9 := hAq.addQ (k := (k : Int)) (m := -1) (how := 2) (u := slft fD fb fs wd k R) (c := tkC fD fb fs fc wd R k) (p := z2) (k, -1, 2, slft fD fb fs wd k R, tkC fD fb fs fc wd R k, prt (fp k) (fs k) (fs k - slft fD fb fs wd k R) (slft fD fb fs wd k R)) rfl rfl rfl rfl rfl hz2
              rw [← eMn, ← eQ] at h9
              exact h9.fr (S := [18, 19]) (by rw [est28, est27]; exact (Fr.rf.st (by decide)).st (by decide)) (by rw [est28, est27]; rfl) (by decide)
            have hf3 : Fr [0, 18, 19, 20, 21, 22, 23, 24, 25] st st28 := by
              have h8 : Fr [0, 20, 21, 22, 23, 24, 25] q st26 := by rw [eQ]; exact addQ_fr _ _ _ _ _ _ _ _
              rw [est28, est27]; exact (((hf.tr h8 [0, 18, 19, 20, 21, 22, 23, 24, 25] (by decide)).st (by decide)).st (by decide))
            have hk3 : ∀ j, j ≠ 22 → st28 0 j = st 0 j := fun j hj => by
              have h8 : st28 0 = fnU (q 0) 22 ((Mn : Int) + 1) := by rw [est28, est27, eQ]; rfl
              rw [h8, fnU_ne hj]; exact hkf j hj
            have v18 : st28 18 = fnU (q 18) k (pU fD fb fs wd R k + blw fD fb fs wd R k - slft fD fb fs wd k R) := by rw [est28, est27, eQ]; rfl
            have v19 : st28 19 = fnU (q 19) k (hC fD fb fs fc wd R k - tkC fD fb fs fc wd R k) := by rw [est28, est27, eQ]; rfl
            have hp3 : ∀ i, i < k + 1 → st28 18 i = pU fD fb fs wd R (i + 1) ∧ st28 19 i = pC fD fb fs fc wd R (i + 1) := by
              intro i hi
              rw [v18, v19]
              rcases Nat.lt_or_ge i k with y | y
              · rw [fnU_ne (by omega), fnU_ne (by omega)]; exact hpp i y
              · rw [show i = k by omega, fnU_eq, fnU_eq, hU4, hPC]; exact ⟨by omega, rfl⟩
            have hl : lv_has ls 8 [(5, .int (iI ((k + 1 : Nat) : Int))), (1, .long (lI (pU fD fb fs wd R (k + 1)))), (3, .long (lI (pC fD fb fs fc wd R (k + 1)))), (6, .long (lI (tkC fD fb fs fc wd R k))), (0, .ref (ad 0))] := by rw [hU4, hPC]; exact hl
            exact ih7 st28 (k + 1) (by omega) hf3 hk3 hA3 hp3 (by omega) _ _ _ hW (lv_sub hl [4, 1, 2, 0] rfl)
  exact loop7 _ st 0 (Nat.zero_le _) Fr.rf (fun _ _ => rfl) (by rw [show mPP fD fb fs fc fp wd R 0 = [] from rfl, List.append_nil]; exact hA) (fun i hi => absurd hi (by omega)) (Nat.lt_succ_self _) _ _ _ hW (lv_sub hl [3, 2, 1, 0] rfl)

