set_option maxHeartbeats 4000000 in
set_option maxRecDepth 100000 in
theorem c_X3_addTrade (l : Launch) (cg : Nat → ClassId) (D : va_G) (ad : Nat → Nat) (st : Nat → Nat → Int) (k R q : Nat) (u : Int) (hk : k < 60) (hR : st 4 9 = R) (hR6 : R ≤ 60) (hq : q < R) (hqd : st 5 q = st 25 k) (hD : ∀ r, r < R → 0 ≤ st 5 r ∧ st 5 r < 1825) (hso : ∀ r q, r < q → q < R → st 5 r < st 5 q) (hsa : st 22 k = 0 ∨ st 22 k = 1) : MV l yX3_addTrade wsX3_addTrade ({ frames := 1, cells := 0, slots := 0, locals := 23 }) D vwCl (TY cg) 28 (celL cg) ad st [.ref (ad 4), .ref (ad 21), .int (iI ((k : Nat) : Int)), .int (iI u)] (fun st1 => Fr [6, 8, 9, 11] st st1 ∧ (st 22 k = 0 → st1 6 = fnU (st 6) q (st 6 q + u) ∧ st1 8 = fnU (st 8) q (st 8 q + st 27 k) ∧ st1 9 = st 9 ∧ st1 11 = st 11) ∧ (¬ st 22 k = 0 → st1 9 = fnU (st 9) q (st 9 q + u) ∧ st1 11 = fnU (st 11) q (st 11 q + st 27 k) ∧ st1 6 = st 6 ∧ st1 8 = st 8)) := by
  refine mk_open (cc := cX3_addTrade) (maxL := 5) (ret := none) (by decide) rfl (Nat.le_of_ble_eq_true rfl) ?_
  intro p e s m args below meth c hx hb hml hr hown hts hlocks hK hN hargs ls hl hW
  have hown : s.vm.findClass RX3 = some m.cls := hown
  have hl : lv_has ls 5 [(0, .ref (ad 4)), (1, .ref (ad 21)), (2, .int (iI ((k : Nat) : Int))), (3, .int (iI u))] := hl
  have inX0 : ∀ w ∈ wsX00, w ∈ wsX3_addTrade := by decide +kernel
  have inX3 : ∀ w ∈ wsX30, w ∈ wsX3_addTrade := by decide +kernel
  have fn57 := hN.f (args := args) "GainsReckoner$Sheet" 57 "GainsReckoner$Journal" "day" "[I" (by decide +kernel)
  have fn79 := hN.f (args := args) "GainsReckoner$Sheet" 79 "GainsReckoner$Journal" "sale" "[Z" (by decide +kernel)
  have fl15 := hts (.fieldLink RX3 15 "GainsReckoner$Sheet" "bought" "[I") (by decide +kernel)
  have fl21 := hts (.fieldLink RX3 21 "GainsReckoner$Sheet" "cost" "[I") (by decide +kernel)
  have fn83 := hN.f (args := args) "GainsReckoner$Sheet" 83 "GainsReckoner$Journal" "money" "[I" (by decide +kernel)
  have fl24 := hts (.fieldLink RX3 24 "GainsReckoner$Sheet" "sold" "[I") (by decide +kernel)
  have fl30 := hts (.fieldLink RX3 30 "GainsReckoner$Sheet" "proceeds" "[I") (by decide +kernel)
  have hqr := hD q hq
  refine lv_aload_n hx hb dX3_addTrade_0 rfl (lv_at hl 0 rfl) ?_
  refine lv_aload_n hx hb dX3_addTrade_1 rfl (lv_at hl 1 rfl) ?_
  refine mk_getN (ci := 0) (C := RX0) (T := TX0) (N := 7) hx hb hts inX0 hown hK hW 21 (by decide) rfl rfl 3 (by decide) fn57 (fun _ h9 => h9) rfl dX3_addTrade_2 ?_
  refine lv_iload_n hx hb dX3_addTrade_5 rfl (lv_at hl 2 rfl) ?_
  refine mk_iald hx hb hK hW 25 (by decide) rfl 0 rfl (j := k) rfl (by omega) (by decide) dX3_addTrade_6 ?_
  refine mk_goI (va_runV (As := [.int (iI (st 25 k))]) (rest := []) ⟨hx, hb, hml, hown, hts⟩ (c_X3_lastRowUpTo l cg D ad st (st 25 k) R hR hR6 (fun r hr => by have := hD r hr; omega) (by omega)) (cwV 1 hts gX3_addTrade_X3_lastRowUpTo rfl rfl rfl (by decide +kernel) ⟨Nat.le_of_ble_eq_true rfl, Nat.le_of_ble_eq_true rfl⟩) (mk_preV hK hN hW 4 (by decide) rfl rfl rfl) rfl rfl hl.1 rfl (lv_room (Nat.le_of_ble_eq_true rfl)) dX3_addTrade_7 ⟨Nat.zero_le _, Nat.zero_le _⟩) hW (fun z st1 hp7 H locs hW => ?_)
  obtain ⟨est1, q2, ez, hq2, hle, hgt⟩ := hp7
  rw [est1] at hW
  have eq2 : q2 = q + 1 := by
    rcases Nat.lt_or_ge q q2 with y | y
    · rcases Nat.lt_or_ge (q + 1) q2 with x | x
      · have := hso q (q2 - 1) (by omega) (by omega); have := hle (q2 - 1) (by omega); omega
      · omega
    · have h8 := hgt (by omega)
      rcases Nat.lt_or_ge q2 q with x | x
      · have := hso q2 q x hq; omega
      · rw [show q2 = q by omega] at h8; omega
  subst eq2
  refine mk_sayi (y := ((q : Nat) : Int)) (by omega) ?_
  refine lv_istore (lv' := [(4, .int (iI ((q : Nat) : Int))), (0, .ref (ad 4)), (1, .ref (ad 21)), (2, .int (iI ((k : Nat) : Int))), (3, .int (iI u))]) hx hb dX3_addTrade_10 hl (by decide) rfl (fun ls hl => ?_)
  refine lv_iload hx hb dX3_addTrade_12 (lv_at hl 0 rfl) ?_
  refine mk_if_ge (tgt := 18) hx hb dX3_addTrade_14 (by decide) (by omega) (fun c_14 => ?_) (fun c_14 => ?_)
  · skip
    refine lv_aload_n hx hb dX3_addTrade_18 rfl (lv_at hl 2 rfl) ?_
    refine mk_getN (ci := 0) (C := RX0) (T := TX0) (N := 7) hx hb hts inX0 hown hK hW 21 (by decide) rfl rfl 0 (by decide) fn79 (fun _ h9 => h9) rfl dX3_addTrade_19 ?_
    refine lv_iload_n hx hb dX3_addTrade_22 rfl (lv_at hl 3 rfl) ?_
    refine mk_zald hx hb hK hW 22 (by decide) rfl 1 rfl (j := k) rfl (by omega) (by decide) dX3_addTrade_23 ?_
    refine mk_if_eq (tgt := 57) hx hb dX3_addTrade_24 (by decide) (by omega) (fun c_24 => ?_) (fun c_24 => ?_)
    · skip
      refine lv_aload_n hx hb dX3_addTrade_57 rfl (lv_at hl 1 rfl) ?_
      refine mk_get (ci := 3) (C := RX3) (T := TX3) (N := 10) hx hb hts inX3 hown hK hW 4 (by decide) rfl rfl 1 (by decide) fl15 (fun _ h9 => h9) rfl dX3_addTrade_58 ?_
      refine lv_iload hx hb dX3_addTrade_61 (lv_at hl 0 rfl) ?_
      refine lv_dup2_11 hx hb dX3_addTrade_63 rfl rfl ?_
      refine mk_iald hx hb hK hW 6 (by decide) rfl 0 rfl (j := q) rfl (by omega) (by decide) dX3_addTrade_64 ?_
      refine lv_iload_n hx hb dX3_addTrade_65 rfl (lv_at hl 4 rfl) ?_
      refine mk_iadd hx hb dX3_addTrade_66 ?_
      refine mk_iast hx hb hK hW 6 (by decide) (fun _ => rfl) 0 rfl (j := q) rfl (by omega) (by decide) dX3_addTrade_67 (fun H locs hW => ?_)
      obtain ⟨st2, est2⟩ : ∃ z, z = stC st 6 (fnU (st 6) q ((st 6 q) + u)) := ⟨_, rfl⟩
      rw [← est2] at hW
      refine lv_aload_n hx hb dX3_addTrade_68 rfl (lv_at hl 1 rfl) ?_
      refine mk_get (ci := 3) (C := RX3) (T := TX3) (N := 10) hx hb hts inX3 hown hK hW 4 (by decide) rfl rfl 3 (by decide) fl21 (fun _ h9 => h9) rfl dX3_addTrade_69 ?_
      refine lv_iload hx hb dX3_addTrade_72 (lv_at hl 0 rfl) ?_
      refine lv_dup2_11 hx hb dX3_addTrade_74 rfl rfl ?_
      refine mk_iald hx hb hK hW 8 (by decide) rfl 0 rfl (j := q) rfl (by omega) (by decide) dX3_addTrade_75 ?_
      refine mk_sayi (y := (st 8 q)) (by rw [show st2 8 = st 8 from by rw [est2]; exact stC_ne (by decide)]) ?_
      refine lv_aload_n hx hb dX3_addTrade_76 rfl (lv_at hl 2 rfl) ?_
      refine mk_getN (ci := 0) (C := RX0) (T := TX0) (N := 7) hx hb hts inX0 hown hK hW 21 (by decide) rfl rfl 5 (by decide) fn83 (fun _ h9 => h9) rfl dX3_addTrade_77 ?_
      refine lv_iload_n hx hb dX3_addTrade_80 rfl (lv_at hl 3 rfl) ?_
      refine mk_iald hx hb hK hW 27 (by decide) rfl 0 rfl (j := k) rfl (by omega) (by decide) dX3_addTrade_81 ?_
      refine mk_sayi (y := (st 27 k)) (by rw [show st2 27 = st 27 from by rw [est2]; exact stC_ne (by decide)]) ?_
      refine mk_iadd hx hb dX3_addTrade_82 ?_
      refine mk_iast hx hb hK hW 8 (by decide) (fun _ => rfl) 0 rfl (j := q) rfl (by omega) (by decide) dX3_addTrade_83 (fun H locs hW => ?_)
      obtain ⟨st3, est3⟩ : ∃ z, z = stC st2 8 (fnU (st2 8) q ((st 8 q) + (st 27 k))) := ⟨_, rfl⟩
      rw [← est3] at hW
      exact mk_retV hx hb hr hlocks hW ⟨by rw [est3, est2]; exact (Fr.rf.st (by decide)).st (by decide), fun _ => by subst est2; subst est3; exact ⟨rfl, rfl, rfl, rfl⟩, fun h => absurd c_24 h⟩ dX3_addTrade_84
    · skip
      refine lv_aload_n hx hb dX3_addTrade_27 rfl (lv_at hl 1 rfl) ?_
      refine mk_get (ci := 3) (C := RX3) (T := TX3) (N := 10) hx hb hts inX3 hown hK hW 4 (by decide) rfl rfl 4 (by decide) fl24 (fun _ h9 => h9) rfl dX3_addTrade_28 ?_
      refine lv_iload hx hb dX3_addTrade_31 (lv_at hl 0 rfl) ?_
      refine lv_dup2_11 hx hb dX3_addTrade_33 rfl rfl ?_
      refine mk_iald hx hb hK hW 9 (by decide) rfl 0 rfl (j := q) rfl (by omega) (by decide) dX3_addTrade_34 ?_
      refine lv_iload_n hx hb dX3_addTrade_35 rfl (lv_at hl 4 rfl) ?_
      refine mk_iadd hx hb dX3_addTrade_36 ?_
      refine mk_iast hx hb hK hW 9 (by decide) (fun _ => rfl) 0 rfl (j := q) rfl (by omega) (by decide) dX3_addTrade_37 (fun H locs hW => ?_)
      obtain ⟨st4, est4⟩ : ∃ z, z = stC st 9 (fnU (st 9) q ((st 9 q) + u)) := ⟨_, rfl⟩
      rw [← est4] at hW
      refine lv_aload_n hx hb dX3_addTrade_38 rfl (lv_at hl 1 rfl) ?_
      refine mk_get (ci := 3) (C := RX3) (T := TX3) (N := 10) hx hb hts inX3 hown hK hW 4 (by decide) rfl rfl 6 (by decide) fl30 (fun _ h9 => h9) rfl dX3_addTrade_39 ?_
      refine lv_iload hx hb dX3_addTrade_42 (lv_at hl 0 rfl) ?_
      refine lv_dup2_11 hx hb dX3_addTrade_44 rfl rfl ?_
      refine mk_iald hx hb hK hW 11 (by decide) rfl 0 rfl (j := q) rfl (by omega) (by decide) dX3_addTrade_45 ?_
      refine mk_sayi (y := (st 11 q)) (by rw [show st4 11 = st 11 from by rw [est4]; exact stC_ne (by decide)]) ?_
      refine lv_aload_n hx hb dX3_addTrade_46 rfl (lv_at hl 2 rfl) ?_
      refine mk_getN (ci := 0) (C := RX0) (T := TX0) (N := 7) hx hb hts inX0 hown hK hW 21 (by decide) rfl rfl 5 (by decide) fn83 (fun _ h9 => h9) rfl dX3_addTrade_47 ?_
      refine lv_iload_n hx hb dX3_addTrade_50 rfl (lv_at hl 3 rfl) ?_
      refine mk_iald hx hb hK hW 27 (by decide) rfl 0 rfl (j := k) rfl (by omega) (by decide) dX3_addTrade_51 ?_
      refine mk_sayi (y := (st 27 k)) (by rw [show st4 27 = st 27 from by rw [est4]; exact stC_ne (by decide)]) ?_
      refine mk_iadd hx hb dX3_addTrade_52 ?_
      refine mk_iast hx hb hK hW 11 (by decide) (fun _ => rfl) 0 rfl (j := q) rfl (by omega) (by decide) dX3_addTrade_53 (fun H locs hW => ?_)
      obtain ⟨st5, est5⟩ : ∃ z, z = stC st4 11 (fnU (st4 11) q ((st 11 q) + (st 27 k))) := ⟨_, rfl⟩
      rw [← est5] at hW
      refine lv_goto (tgt := 84) hx hb dX3_addTrade_54 (by decide) ?_
      exact mk_retV hx hb hr hlocks hW ⟨by rw [est5, est4]; exact (Fr.rf.st (by decide)).st (by decide), fun h => absurd h c_24, fun _ => by subst est4; subst est5; exact ⟨rfl, rfl, rfl, rfl⟩⟩ dX3_addTrade_84
  · skip
    exact absurd c_14 (by omega)

set_option maxHeartbeats 4000000 in
set_option maxRecDepth 100000 in
theorem c_X3_fill (l : Launch) (cg : Nat → ClassId) (D : va_G) (ad : Nat → Nat) (st : Nat → Nat → Int) (v : Int) (n mm : Nat) (hn : st 21 6 = n) (hJ : JV (st 22) (st 23) (st 24) (st 25) (st 26) (st 27) n) (hm : st 1 2 = mm) (hS : SPV (st 2) (st 3) mm) (hv : -2147483648 ≤ v ∧ v < 2147483648) : MV l yX3_fill wsX3_fill ({ frames := 3, cells := 0, slots := 0, locals := 69 }) D vwCl (TY cg) 28 (celL cg) ad st [.ref (ad 4), .ref (ad 21), .int (iI v), .ref (ad 1)] (fun st1 => Fr [4, 5, 6, 7, 8, 9, 10, 11] st st1 ∧ ∃ R : Nat, IsR (lvb (st 23) (st 24) v) (st 25) n R (st1 5) ∧ RC st1 R (st1 5) (qB (lvb (st 23) (st 24) v) (st 22) (st 25) (uni (st 26) (st 25) (st 2) (st 3) mm) n (st1 5)) (qB (lvb (st 23) (st 24) v) (st 22) (st 25) (st 27) n (st1 5)) (qS (lvb (st 23) (st 24) v) (st 22) (st 25) (uni (st 26) (st 25) (st 2) (st 3) mm) n (st1 5)) (qS (lvb (st 23) (st 24) v) (st 22) (st 25) (st 27) n (st1 5)) ∧ ∀ r, r < R → st1 7 r = min ((qB (lvb (st 23) (st 24) v) (st 22) (st 25) (uni (st 26) (st 25) (st 2) (st 3) mm) n (st1 5)) r) ((qS (lvb (st 23) (st 24) v) (st 22) (st 25) (uni (st 26) (st 25) (st 2) (st 3) mm) n (st1 5)) r) ∧ st1 10 r = min ((qB (lvb (st 23) (st 24) v) (st 22) (st 25) (uni (st 26) (st 25) (st 2) (st 3) mm) n (st1 5)) r) ((qS (lvb (st 23) (st 24) v) (st 22) (st 25) (uni (st 26) (st 25) (st 2) (st 3) mm) n (st1 5)) r)) := by
  refine mk_open (cc := cX3_fill) (maxL := 6) (ret := none) (by decide) rfl (Nat.le_of_ble_eq_true rfl) ?_
  intro p e s m args below meth c hx hb hml hr hown hts hlocks hK hN hargs ls hl hW
  have hown : s.vm.findClass RX3 = some m.cls := hown
  have hl : lv_has ls 6 [(0, .ref (ad 4)), (1, .ref (ad 21)), (2, .int (iI v)), (3, .ref (ad 1))] := hl
  have inX0 : ∀ w ∈ wsX00, w ∈ wsX3_fill := by decide +kernel
  have fn47 := hN.f (args := args) "GainsReckoner$Sheet" 47 "GainsReckoner$Journal" "size" "I" (by decide +kernel)
  have fn54 := hN.f (args := args) "GainsReckoner$Sheet" 54 "GainsReckoner$Journal" "count" "[I" (by decide +kernel)
  have fn57 := hN.f (args := args) "GainsReckoner$Sheet" 57 "GainsReckoner$Journal" "day" "[I" (by decide +kernel)
  have hn6 := hJ.1
  have h44 := hS.1
  refine lv_aload_n hx hb dX3_fill_0 rfl (lv_at hl 0 rfl) ?_
  refine lv_aload_n hx hb dX3_fill_1 rfl (lv_at hl 1 rfl) ?_
  refine lv_iload_n hx hb dX3_fill_2 rfl (lv_at hl 2 rfl) ?_
  refine mk_goV (va_runV (As := [.ref (ad 21), .int (iI v)]) (rest := []) ⟨hx, hb, hml, hown, hts⟩ (c_X3_openRows l cg D ad st v n hn hJ hv) (cwV 2 hts gX3_fill_X3_openRows rfl rfl rfl (by decide +kernel) ⟨Nat.le_of_ble_eq_true rfl, Nat.le_of_ble_eq_true rfl⟩) (mk_preV hK hN hW 4 (by decide) rfl rfl rfl) rfl rfl hl.1 rfl (lv_room (Nat.le_of_ble_eq_true rfl)) dX3_fill_3 ⟨Nat.zero_le _, Nat.zero_le _⟩) hW (fun st1 hp3 H locs hW => ?_)
  obtain ⟨hfo, R, hR, hI, hz⟩ := hp3
  have hR6 := hI.le
  have hDr : ∀ r, r < R → 0 ≤ st1 5 r ∧ st1 5 r < 1825 := fun r hr => by
    obtain ⟨k2, h1, -, h3⟩ := hI.1 r hr
    have := (hJ.2 k2 h1).2.2.2.1; omega
  refine mk_iconst hx hb (0) dX3_fill_6 ?_
  refine lv_istore (lv' := [(4, .int (iI 0)), (0, .ref (ad 4)), (1, .ref (ad 21)), (2, .int (iI v)), (3, .ref (ad 1))]) hx hb dX3_fill_7 hl (by decide) rfl (fun ls hl => ?_)
  have loop9 : ∀ (fuel : Nat) (f : Nat → Nat → Int) (k : Nat), (k ≤ n) → (Fr [6, 8, 9, 11] st1 f) → (∀ r, r < R → f 6 r = wsum (lvb (st 23) (st 24) v) (st 25) (wB (st 22) (uni (st 26) (st 25) (st 2) (st 3) mm)) k (st1 5 r) ∧ f 8 r = wsum (lvb (st 23) (st 24) v) (st 25) (wB (st 22) (st 27)) k (st1 5 r) ∧ f 9 r = wsum (lvb (st 23) (st 24) v) (st 25) (wS (st 22) (uni (st 26) (st 25) (st 2) (st 3) mm)) k (st1 5 r) ∧ f 11 r = wsum (lvb (st 23) (st 24) v) (st 25) (wS (st 22) (st 27)) k (st1 5 r)) → n - k < fuel → ∀ (H : Heap) (locs : List Loc) (ls : Array Slot), GW D vwCl 28 (celL cg) ad (wA 28 ad) s.heap f H locs → lv_has ls 6 [(0, .ref (ad 4)), (1, .ref (ad 21)), (2, .int (iI v)), (3, .ref (ad 1)), (4, .int (iI ((k : Nat) : Int)))] → W p l e (headSpec wsX3_fill ({ frames := 3, cells := 0, slots := 0, locals := 69 })).room s m args below meth c H locs 0 0 (MQ below (va_Qv (fun st1 => Fr [4, 5, 6, 7, 8, 9, 10, 11] st st1 ∧ ∃ R : Nat, IsR (lvb (st 23) (st 24) v) (st 25) n R (st1 5) ∧ RC st1 R (st1 5) (qB (lvb (st 23) (st 24) v) (st 22) (st 25) (uni (st 26) (st 25) (st 2) (st 3) mm) n (st1 5)) (qB (lvb (st 23) (st 24) v) (st 22) (st 25) (st 27) n (st1 5)) (qS (lvb (st 23) (st 24) v) (st 22) (st 25) (uni (st 26) (st 25) (st 2) (st 3) mm) n (st1 5)) (qS (lvb (st 23) (st 24) v) (st 22) (st 25) (st 27) n (st1 5)) ∧ ∀ r, r < R → st1 7 r = min ((qB (lvb (st 23) (st 24) v) (st 22) (st 25) (uni (st 26) (st 25) (st 2) (st 3) mm) n (st1 5)) r) ((qS (lvb (st 23) (st 24) v) (st 22) (st 25) (uni (st 26) (st 25) (st 2) (st 3) mm) n (st1 5)) r) ∧ st1 10 r = min ((qB (lvb (st 23) (st 24) v) (st 22) (st 25) (uni (st 26) (st 25) (st 2) (st 3) mm) n (st1 5)) r) ((qS (lvb (st 23) (st 24) v) (st 22) (st 25) (uni (st 26) (st 25) (st 2) (st 3) mm) n (st1 5)) r)) (mB D vwCl 28 (celL cg) ad) (wA 28 ad)) args s 0 0 (wA 28 ad)) (F0 m 9 ls []) := by
    intro fuel
    induction fuel with
    | zero => intro f k hk hff hin hmu; omega
    | succ fuel ih9 =>
      intro f k hk hff hin hmu H locs ls hW hl
      refine lv_iload hx hb dX3_fill_9 (lv_at hl 4 rfl) ?_
      refine lv_aload_n hx hb dX3_fill_11 rfl (lv_at hl 1 rfl) ?_
      refine mk_getN (ci := 0) (C := RX0) (T := TX0) (N := 7) hx hb hts inX0 hown hK hW 21 (by decide) rfl rfl 6 (by decide) fn47 (fun _ h9 => h9) rfl dX3_fill_12 ?_
      refine mk_sayi (y := (st 21 6)) (by rw [hff 21 (by decide), hfo 21 (by decide)]) ?_
      refine mk_sayi (y := ((n : Nat) : Int)) hn ?_
      refine mk_icmp_ge (tgt := 67) hx hb dX3_fill_15 (by decide) (by omega) (by omega) (fun c_15 => ?_) (fun c_15 => ?_)
      · skip
        have ek : k = n := by omega
        subst ek
        have hu : ∀ i, i < k → 0 ≤ (uni (st 26) (st 25) (st 2) (st 3) mm) i ∧ (uni (st 26) (st 25) (st 2) (st 3) mm) i ≤ 625000 := fun i hi => by have := uni_bd hJ hS hi; omega
        have hbs : ∀ r, r < R → (-2147483648 ≤ f 6 r ∧ f 6 r < 2147483648) ∧ -2147483648 ≤ f 9 r ∧ f 9 r < 2147483648 := by
          intro r hr
          obtain ⟨i1, -, i3, -⟩ := hin r hr
          rw [i1, i3]
          have h1 := wsum_nn (L := (lvb (st 23) (st 24) v)) (dy := st 25) (fun i hi => (wB_bd (sa := st 22) hu hi).1) (st1 5 r)
          have h2 := wsum_le (L := (lvb (st 23) (st 24) v)) (dy := st 25) (w := wB (st 22) (uni (st 26) (st 25) (st 2) (st 3) mm)) (fun i hi => wB_bd (sa := st 22) hu hi) (st1 5 r)
          have h3 := wsum_nn (L := (lvb (st 23) (st 24) v)) (dy := st 25) (fun i hi => (wS_bd (sa := st 22) hu hi).1) (st1 5 r)
          have h4 := wsum_le (L := (lvb (st 23) (st 24) v)) (dy := st 25) (w := wS (st 22) (uni (st 26) (st 25) (st 2) (st 3) mm)) (fun i hi => wS_bd (sa := st 22) hu hi) (st1 5 r)
          omega
        refine lv_aload_n hx hb dX3_fill_67 rfl (lv_at hl 0 rfl) ?_
        refine mk_goV (va_runV (As := []) (rest := []) ⟨hx, hb, hml, hown, hts⟩ (c_X3_setSameDaysAside l cg D ad f R (by rw [hff 4 (by decide)]; exact hR) (by omega) hbs) (cwV 0 hts gX3_fill_X3_setSameDaysAside rfl rfl rfl (by decide +kernel) ⟨Nat.le_of_ble_eq_true rfl, Nat.le_of_ble_eq_true rfl⟩) (mk_preV hK hN hW 4 (by decide) rfl rfl rfl) rfl rfl hl.1 rfl (lv_room (Nat.le_of_ble_eq_true rfl)) dX3_fill_68 ⟨Nat.zero_le _, Nat.zero_le _⟩) hW (fun st3 hp68 H locs hW => ?_)
        exact mk_retV hx hb hr hlocks hW (by
          obtain ⟨hfs, hv9⟩ := hp68
          have e5 : st3 5 = st1 5 := by rw [hfs 5 (by decide), hff 5 (by decide)]
          refine ⟨(hfo.tr hff [4, 5, 6, 8, 9, 11] (by decide)).tr hfs [4, 5, 6, 7, 8, 9, 10, 11] (by decide), R, by rw [e5]; exact hI, ⟨by rw [hfs 4 (by decide), hff 4 (by decide)]; exact hR, fun r hr => ?_⟩, fun r hr => ?_⟩
          · obtain ⟨i1, i2, i3, i4⟩ := hin r hr
            rw [e5, hfs 6 (by decide), hfs 8 (by decide), hfs 9 (by decide), hfs 11 (by decide)]
            exact ⟨rfl, i1, i2, i3, i4⟩
          · obtain ⟨i1, -, i3, -⟩ := hin r hr
            obtain ⟨j1, j2⟩ := hv9 r hr
            rw [j1, j2, i1, i3, e5]
            exact ⟨rfl, rfl⟩) dX3_fill_71
      · skip
        refine lv_aload_n hx hb dX3_fill_18 rfl (lv_at hl 1 rfl) ?_
        refine lv_iload hx hb dX3_fill_19 (lv_at hl 4 rfl) ?_
        refine lv_iload_n hx hb dX3_fill_21 rfl (lv_at hl 2 rfl) ?_
        refine mk_goI (va_runV (As := [.int (iI ((k : Nat) : Int)), .int (iI v)]) (rest := []) ⟨hx, hb, hml, hown, hts⟩ (c_X0_counts l cg D ad f k v (by omega) (by rw [hff 24 (by decide), hfo 24 (by decide)]; exact (by have := hJ.2 k (by omega); omega)) (by rw [hff 23 (by decide), hfo 23 (by decide)]; exact (by have := hJ.2 k (by omega); omega)) hv) (cwV 2 hts gX3_fill_X0_counts rfl rfl rfl (by decide +kernel) ⟨Nat.le_of_ble_eq_true rfl, Nat.le_of_ble_eq_true rfl⟩) (mk_preV hK hN hW 21 (by decide) rfl rfl rfl) rfl rfl hl.1 rfl (lv_room (Nat.le_of_ble_eq_true rfl)) dX3_fill_22 ⟨Nat.zero_le _, Nat.zero_le _⟩) hW (fun z st5 hp22 H locs hW => ?_)
        obtain ⟨est5, hz22⟩ := hp22
        rw [est5] at hW
        rw [hff 23 (by decide), hff 24 (by decide), hfo 23 (by decide), hfo 24 (by decide)] at hz22
        refine mk_if_eq (tgt := 61) hx hb dX3_fill_25 (by decide) (by omega) (fun c_25 => ?_) (fun c_25 => ?_)
        · skip
          have hL : ¬ (lvb (st 23) (st 24) v) k = true := fun h => by have := lvb_t.mp h; omega
          refine mk_iinc (w := ((k + 1 : Nat) : Int)) (lv' := [(4, .int (iI ((k + 1 : Nat) : Int))), (0, .ref (ad 4)), (1, .ref (ad 21)), (2, .int (iI v)), (3, .ref (ad 1))]) hx hb dX3_fill_61 hl (k := 4) rfl (by omega) (by decide) rfl (fun ls hl => ?_)
          refine lv_goto (tgt := 9) hx hb dX3_fill_64 (by decide) ?_
          exact ih9 f (k + 1) (by omega) hff (fun r hr => by rw [wsum_dead (fun h => hL h.1), wsum_dead (fun h => hL h.1), wsum_dead (fun h => hL h.1), wsum_dead (fun h => hL h.1)]; exact hin r hr) (by omega) _ _ _ hW (lv_sub hl [1, 2, 3, 4, 0] rfl)
        · skip
          have hL : (lvb (st 23) (st 24) v) k = true := lvb_t.mpr (by omega)
          obtain ⟨q, hq, hqd⟩ := hI.2.1 k (by omega) hL
          refine lv_aload_n hx hb dX3_fill_28 rfl (lv_at hl 1 rfl) ?_
          refine mk_getN (ci := 0) (C := RX0) (T := TX0) (N := 7) hx hb hts inX0 hown hK hW 21 (by decide) rfl rfl 4 (by decide) fn54 (fun _ h9 => h9) rfl dX3_fill_29 ?_
          refine lv_iload hx hb dX3_fill_32 (lv_at hl 4 rfl) ?_
          refine mk_iald hx hb hK hW 26 (by decide) rfl 0 rfl (j := k) rfl (by omega) (by decide) dX3_fill_34 ?_
          refine mk_sayi (y := (st 26 k)) (by rw [hff 26 (by decide), hfo 26 (by decide)]) ?_
          refine lv_aload_n hx hb dX3_fill_35 rfl (lv_at hl 3 rfl) ?_
          refine lv_aload_n hx hb dX3_fill_36 rfl (lv_at hl 1 rfl) ?_
          refine mk_getN (ci := 0) (C := RX0) (T := TX0) (N := 7) hx hb hts inX0 hown hK hW 21 (by decide) rfl rfl 3 (by decide) fn57 (fun _ h9 => h9) rfl dX3_fill_37 ?_
          refine lv_iload hx hb dX3_fill_40 (lv_at hl 4 rfl) ?_
          refine mk_iald hx hb hK hW 25 (by decide) rfl 0 rfl (j := k) rfl (by omega) (by decide) dX3_fill_42 ?_
          refine mk_sayi (y := (st 25 k)) (by rw [hff 25 (by decide), hfo 25 (by decide)]) ?_
          have hd25 := (hJ.2 k (by omega)).2.2.2.1
          refine mk_sipush hx hb (1825) (by decide +kernel) dX3_fill_43 ?_
          refine mk_goI (va_runV (As := [.int (iI (st 25 k)), .int (iI 1825)]) (rest := [.int (iI (st 26 k))]) ⟨hx, hb, hml, hown, hts⟩ (c_X4_factorBetween l cg D ad f (st 25 k) 1825 mm (by rw [hff 1 (by decide), hfo 1 (by decide)]; exact hm) (by rw [hff 2 (by decide), hfo 2 (by decide), hff 3 (by decide), hfo 3 (by decide)]; exact hS) (by omega) (by omega)) (cwV 2 hts gX3_fill_X4_factorBetween rfl rfl rfl (by decide +kernel) ⟨Nat.le_of_ble_eq_true rfl, Nat.le_of_ble_eq_true rfl⟩) (mk_preV hK hN hW 1 (by decide) rfl rfl rfl) rfl rfl hl.1 rfl (lv_room (Nat.le_of_ble_eq_true rfl)) dX3_fill_46 ⟨Nat.zero_le _, Nat.zero_le _⟩) hW (fun z2 st6 hp46 H locs hW => ?_)
          obtain ⟨est6, hz46⟩ := hp46
          rw [est6] at hW
          rw [hff 2 (by decide), hff 3 (by decide), hfo 2 (by decide), hfo 3 (by decide), fac_fla hS] at hz46
          refine mk_imul hx hb dX3_fill_49 ?_
          refine mk_sayi (y := ((uni (st 26) (st 25) (st 2) (st 3) mm) k)) (by rw [hz46]; rfl) ?_
          refine lv_istore (lv' := [(5, .int (iI ((uni (st 26) (st 25) (st 2) (st 3) mm) k))), (0, .ref (ad 4)), (1, .ref (ad 21)), (2, .int (iI v)), (3, .ref (ad 1)), (4, .int (iI ((k : Nat) : Int)))]) hx hb dX3_fill_50 hl (by decide) rfl (fun ls hl => ?_)
          refine lv_aload_n hx hb dX3_fill_52 rfl (lv_at hl 1 rfl) ?_
          refine lv_aload_n hx hb dX3_fill_53 rfl (lv_at hl 2 rfl) ?_
          refine lv_iload hx hb dX3_fill_54 (lv_at hl 5 rfl) ?_
          refine lv_iload hx hb dX3_fill_56 (lv_at hl 0 rfl) ?_
          refine mk_goV (va_runV (As := [.ref (ad 21), .int (iI ((k : Nat) : Int)), .int (iI ((uni (st 26) (st 25) (st 2) (st 3) mm) k))]) (rest := []) ⟨hx, hb, hml, hown, hts⟩ (c_X3_addTrade l cg D ad f k R q ((uni (st 26) (st 25) (st 2) (st 3) mm) k) (by omega) (by rw [hff 4 (by decide)]; exact hR) (by omega) hq (by rw [hff 5 (by decide), hff 25 (by decide), hfo 25 (by decide)]; exact hqd) (by rw [hff 5 (by decide)]; exact hDr) (by rw [hff 5 (by decide)]; exact hI.2.2) (by rw [hff 22 (by decide), hfo 22 (by decide)]; exact (hJ.2 k (by omega)).1)) (cwV 3 hts gX3_fill_X3_addTrade rfl rfl rfl (by decide +kernel) ⟨Nat.le_of_ble_eq_true rfl, Nat.le_of_ble_eq_true rfl⟩) (mk_preV hK hN hW 4 (by decide) rfl rfl rfl) rfl rfl hl.1 rfl (lv_room (Nat.le_of_ble_eq_true rfl)) dX3_fill_58 ⟨Nat.zero_le _, Nat.zero_le _⟩) hW (fun st7 hp58 H locs hW => ?_)
          refine mk_iinc (w := ((k + 1 : Nat) : Int)) (lv' := [(4, .int (iI ((k + 1 : Nat) : Int))), (5, .int (iI ((uni (st 26) (st 25) (st 2) (st 3) mm) k))), (0, .ref (ad 4)), (1, .ref (ad 21)), (2, .int (iI v)), (3, .ref (ad 1))]) hx hb dX3_fill_61 hl (k := 5) rfl (by omega) (by decide) rfl (fun ls hl => ?_)
          refine lv_goto (tgt := 9) hx hb dX3_fill_64 (by decide) ?_
          obtain ⟨hf9, ha, hb9⟩ := hp58
          have hf3 : Fr [6, 8, 9, 11] st1 st7 := hff.tr hf9 [6, 8, 9, 11] (by decide)
          have e22 : f 22 = st 22 := by rw [hff 22 (by decide), hfo 22 (by decide)]
          have e27 : f 27 = st 27 := by rw [hff 27 (by decide), hfo 27 (by decide)]
          rw [e22, e27] at ha hb9
          have hin3 : ∀ r, r < R → st7 6 r = wsum (lvb (st 23) (st 24) v) (st 25) (wB (st 22) (uni (st 26) (st 25) (st 2) (st 3) mm)) (k + 1) (st1 5 r) ∧ st7 8 r = wsum (lvb (st 23) (st 24) v) (st 25) (wB (st 22) (st 27)) (k + 1) (st1 5 r) ∧ st7 9 r = wsum (lvb (st 23) (st 24) v) (st 25) (wS (st 22) (uni (st 26) (st 25) (st 2) (st 3) mm)) (k + 1) (st1 5 r) ∧ st7 11 r = wsum (lvb (st 23) (st 24) v) (st 25) (wS (st 22) (st 27)) (k + 1) (st1 5 r) := by
            intro r hr
            obtain ⟨i1, i2, i3, i4⟩ := hin r hr
            by_cases y : r = q
            · subst y
              rw [wsum_live hL hqd.symm, wsum_live hL hqd.symm, wsum_live hL hqd.symm, wsum_live hL hqd.symm]
              by_cases x : st 22 k = 0
              · obtain ⟨a1, a2, a3, a4⟩ := ha x
                rw [a1, a2, a3, a4, fnU_eq, fnU_eq, i1, i2, i3, i4]
                unfold wB wS
                rw [if_pos x, if_pos x, if_pos x, if_pos x]
                exact ⟨rfl, rfl, (Int.add_zero _).symm, (Int.add_zero _).symm⟩
              · obtain ⟨a1, a2, a3, a4⟩ := hb9 x
                rw [a1, a2, a3, a4, fnU_eq, fnU_eq, i1, i2, i3, i4]
                unfold wB wS
                rw [if_neg x, if_neg x, if_neg x, if_neg x]
                exact ⟨(Int.add_zero _).symm, (Int.add_zero _).symm, rfl, rfl⟩
            · have hn9 : ¬ ((lvb (st 23) (st 24) v) k = true ∧ st 25 k = st1 5 r) := fun h => y (hI.inj hr hq (by omega))
              rw [wsum_dead hn9, wsum_dead hn9, wsum_dead hn9, wsum_dead hn9]
              by_cases x : st 22 k = 0
              · obtain ⟨a1, a2, a3, a4⟩ := ha x
                rw [a1, a2, a3, a4, fnU_ne y, fnU_ne y]; exact ⟨i1, i2, i3, i4⟩
              · obtain ⟨a1, a2, a3, a4⟩ := hb9 x
                rw [a1, a2, a3, a4, fnU_ne y, fnU_ne y]; exact ⟨i1, i2, i3, i4⟩
          exact ih9 st7 (k + 1) (by omega) hf3 hin3 (by omega) _ _ _ hW (lv_sub hl [2, 3, 4, 5, 0] rfl)
  exact loop9 _ st1 0 (Nat.zero_le _) Fr.rf (fun r hr => ⟨(hz r hr).1, (hz r hr).2.1, (hz r hr).2.2.1, (hz r hr).2.2.2⟩) (Nat.lt_succ_self _) _ _ _ hW (lv_sub hl [1, 2, 3, 4, 0] rfl)

