set_option maxHeartbeats 4000000 in
set_option maxRecDepth 100000 in
theorem c_X6_thrown (l : Launch) (cg : Nat → ClassId) (D : va_G) (ad : Nat → Nat) (st : Nat → Nat → Int)  : MI l yX6_thrown wsX6_thrown ({ frames := 0, cells := 0, slots := 0, locals := 0 }) D vwCl (TY cg) 26 (celM cg) ad st [.ref (ad 0)] (fun z st1 => st1 = st ∧ z = st 0 29) := by
  refine mk_open (cc := cX6_thrown) (maxL := 1) (ret := (some .int)) (by decide) rfl (Nat.le_of_ble_eq_true rfl) ?_
  intro p e s m args below meth c hx hb hml hr hown hts hlocks hK hN hargs ls hl hW
  have hown : s.vm.findClass RX6 = some m.cls := hown
  have hl : lv_has ls 1 [(0, .ref (ad 0))] := hl
  have inX6 : ∀ w ∈ wsX60, w ∈ wsX6_thrown := by decide +kernel
  have fl91 := hts (.fieldLink RX6 91 "GainsReckonerModel" "thrown" "I") (by decide +kernel)
  refine lv_aload_n hx hb dX6_thrown_0 rfl (lv_at hl 0 rfl) ?_
  refine mk_get (ci := 6) (C := RX6) (T := TX6) (N := 30) hx hb hts inX6 hown hK hW 0 (by decide) rfl rfl 29 (by decide) fl91 (fun _ h9 => h9) rfl dX6_thrown_1 ?_
  exact mk_retI hx hb hr hlocks hW ⟨rfl, rfl⟩ dX6_thrown_4

set_option maxHeartbeats 4000000 in
set_option maxRecDepth 100000 in
theorem c_X6_isIn (l : Launch) (cg : Nat → ClassId) (D : va_G) (ad : Nat → Nat) (st : Nat → Nat → Int) (a lo hi : Int) (ha : -2147483648 ≤ a ∧ a < 2147483648) (hlo : -2147483648 ≤ lo ∧ lo < 2147483648) (hhi : -2147483648 ≤ hi ∧ hi < 2147483648) : MI l yX6_isIn wsX6_isIn ({ frames := 0, cells := 0, slots := 0, locals := 0 }) D vwCl (TY cg) 26 (celM cg) ad st [.int (iI a), .int (iI lo), .int (iI hi)] (fun z st1 => st1 = st ∧ ((z = 1 ∧ lo ≤ a ∧ a ≤ hi) ∨ (z = 0 ∧ ¬ (lo ≤ a ∧ a ≤ hi)))) := by
  refine mk_open (cc := cX6_isIn) (maxL := 3) (ret := (some .boolean)) (by decide) rfl (Nat.le_of_ble_eq_true rfl) ?_
  intro p e s m args below meth c hx hb hml hr hown hts hlocks hK hN hargs ls hl hW
  have hown : s.vm.findClass RX6 = some m.cls := hown
  have hl : lv_has ls 3 [(0, .int (iI a)), (1, .int (iI lo)), (2, .int (iI hi))] := hl
  refine lv_iload_n hx hb dX6_isIn_0 rfl (lv_at hl 0 rfl) ?_
  refine lv_iload_n hx hb dX6_isIn_1 rfl (lv_at hl 1 rfl) ?_
  refine mk_icmp_lt (tgt := 14) hx hb dX6_isIn_2 (by decide) (by omega) (by omega) (fun c_2 => ?_) (fun c_2 => ?_)
  · skip
    refine mk_iconst hx hb (0) dX6_isIn_14 ?_
    exact mk_retZ hx hb hr hlocks hW (by omega) ⟨rfl, Or.inr ⟨rfl, by omega⟩⟩ dX6_isIn_15
  · skip
    refine lv_iload_n hx hb dX6_isIn_5 rfl (lv_at hl 0 rfl) ?_
    refine lv_iload_n hx hb dX6_isIn_6 rfl (lv_at hl 2 rfl) ?_
    refine mk_icmp_gt (tgt := 14) hx hb dX6_isIn_7 (by decide) (by omega) (by omega) (fun c_7 => ?_) (fun c_7 => ?_)
    · skip
      refine mk_iconst hx hb (0) dX6_isIn_14 ?_
      exact mk_retZ hx hb hr hlocks hW (by omega) ⟨rfl, Or.inr ⟨rfl, by omega⟩⟩ dX6_isIn_15
    · skip
      refine mk_iconst hx hb (1) dX6_isIn_10 ?_
      refine lv_goto (tgt := 15) hx hb dX6_isIn_11 (by decide) ?_
      exact mk_retZ hx hb hr hlocks hW (by omega) ⟨rfl, Or.inl ⟨rfl, by omega, by omega⟩⟩ dX6_isIn_15

set_option maxHeartbeats 4000000 in
set_option maxRecDepth 100000 in
theorem c_X6_isShare (l : Launch) (cg : Nat → ClassId) (D : va_G) (ad : Nat → Nat) (st : Nat → Nat → Int) (a : Int) (ha : -2147483648 ≤ a ∧ a < 2147483648) : MI l yX6_isShare wsX6_isShare ({ frames := 1, cells := 0, slots := 0, locals := 22 }) D vwCl (TY cg) 26 (celM cg) ad st [.int (iI a)] (fun z st1 => st1 = st ∧ ((z = 1 ∧ 0 ≤ a ∧ a ≤ 2) ∨ (z = 0 ∧ ¬ (0 ≤ a ∧ a ≤ 2)))) := by
  refine mk_open (cc := cX6_isShare) (maxL := 1) (ret := (some .boolean)) (by decide) rfl (Nat.le_of_ble_eq_true rfl) ?_
  intro p e s m args below meth c hx hb hml hr hown hts hlocks hK hN hargs ls hl hW
  have hown : s.vm.findClass RX6 = some m.cls := hown
  have hl : lv_has ls 1 [(0, .int (iI a))] := hl
  refine lv_iload_n hx hb dX6_isShare_0 rfl (lv_at hl 0 rfl) ?_
  refine mk_iconst hx hb (0) dX6_isShare_1 ?_
  refine mk_iconst hx hb (2) dX6_isShare_2 ?_
  refine mk_goI (va_runS (As := [.int (iI a), .int (iI 0), .int (iI 2)]) (rest := []) ⟨hx, hb, hml, hown, hts⟩ (c_X6_isIn l cg D ad st a 0 2 ha (by omega) (by omega)) (cwS 3 hts gX6_isShare_X6_isIn rfl rfl rfl (by decide +kernel) ⟨Nat.le_of_ble_eq_true rfl, Nat.le_of_ble_eq_true rfl⟩) (mk_preS hK hN hW) rfl rfl hl.1 rfl (lv_room (Nat.le_of_ble_eq_true rfl)) dX6_isShare_3 ⟨Nat.zero_le _, Nat.zero_le _⟩) hW (fun z st1 hp3 H locs hW => ?_)
  obtain ⟨est1, hz⟩ := hp3
  rw [est1] at hW
  exact mk_retZ hx hb hr hlocks hW (by omega) ⟨rfl, hz⟩ dX6_isShare_6

set_option maxHeartbeats 4000000 in
set_option maxRecDepth 100000 in
theorem c_X6_isDay (l : Launch) (cg : Nat → ClassId) (D : va_G) (ad : Nat → Nat) (st : Nat → Nat → Int) (a : Int) (ha : -2147483648 ≤ a ∧ a < 2147483648) : MI l yX6_isDay wsX6_isDay ({ frames := 1, cells := 0, slots := 0, locals := 22 }) D vwCl (TY cg) 26 (celM cg) ad st [.int (iI a)] (fun z st1 => st1 = st ∧ ((z = 1 ∧ 0 ≤ a ∧ a ≤ 1824) ∨ (z = 0 ∧ ¬ (0 ≤ a ∧ a ≤ 1824)))) := by
  refine mk_open (cc := cX6_isDay) (maxL := 1) (ret := (some .boolean)) (by decide) rfl (Nat.le_of_ble_eq_true rfl) ?_
  intro p e s m args below meth c hx hb hml hr hown hts hlocks hK hN hargs ls hl hW
  have hown : s.vm.findClass RX6 = some m.cls := hown
  have hl : lv_has ls 1 [(0, .int (iI a))] := hl
  refine lv_iload_n hx hb dX6_isDay_0 rfl (lv_at hl 0 rfl) ?_
  refine mk_iconst hx hb (0) dX6_isDay_1 ?_
  refine mk_sipush hx hb (1824) (by decide +kernel) dX6_isDay_2 ?_
  refine mk_goI (va_runS (As := [.int (iI a), .int (iI 0), .int (iI 1824)]) (rest := []) ⟨hx, hb, hml, hown, hts⟩ (c_X6_isIn l cg D ad st a 0 1824 ha (by omega) (by omega)) (cwS 3 hts gX6_isDay_X6_isIn rfl rfl rfl (by decide +kernel) ⟨Nat.le_of_ble_eq_true rfl, Nat.le_of_ble_eq_true rfl⟩) (mk_preS hK hN hW) rfl rfl hl.1 rfl (lv_room (Nat.le_of_ble_eq_true rfl)) dX6_isDay_5 ⟨Nat.zero_le _, Nat.zero_le _⟩) hW (fun z st1 hp5 H locs hW => ?_)
  obtain ⟨est1, hz⟩ := hp5
  rw [est1] at hW
  exact mk_retZ hx hb hr hlocks hW (by omega) ⟨rfl, hz⟩ dX6_isDay_8

set_option maxHeartbeats 4000000 in
set_option maxRecDepth 100000 in
theorem c_X6_later (l : Launch) (cg : Nat → ClassId) (D : va_G) (ad : Nat → Nat) (st : Nat → Nat → Int) (v mm : Nat) (d : Int) (hv : v < 3) (hm : st 7 v = mm) (hS : SPV (fun i => st 8 (4 * v + i)) (fun i => st 9 (4 * v + i)) mm) (hd : -2147483648 ≤ d ∧ d < 2147483648) : MI l yX6_later wsX6_later ({ frames := 0, cells := 0, slots := 0, locals := 0 }) D vwCl (TY cg) 26 (celM cg) ad st [.ref (ad 0), .int (iI ((v : Nat) : Int)), .int (iI d)] (fun z st1 => st1 = st ∧ z = fla (fun i => st 8 (4 * v + i)) (fun i => st 9 (4 * v + i)) mm d) := by
  refine mk_open (cc := cX6_later) (maxL := 5) (ret := (some .int)) (by decide) rfl (Nat.le_of_ble_eq_true rfl) ?_
  intro p e s m args below meth c hx hb hml hr hown hts hlocks hK hN hargs ls hl hW
  have hown : s.vm.findClass RX6 = some m.cls := hown
  have hl : lv_has ls 5 [(0, .ref (ad 0)), (1, .int (iI ((v : Nat) : Int))), (2, .int (iI d))] := hl
  have inX6 : ∀ w ∈ wsX60, w ∈ wsX6_later := by decide +kernel
  have fl29 := hts (.fieldLink RX6 29 "GainsReckonerModel" "splits" "[I") (by decide +kernel)
  have fl32 := hts (.fieldLink RX6 32 "GainsReckonerModel" "splitDay" "[I") (by decide +kernel)
  have fl35 := hts (.fieldLink RX6 35 "GainsReckonerModel" "factor" "[I") (by decide +kernel)
  have h44 := hS.1
  refine mk_iconst hx hb (1) dX6_later_0 ?_
  refine lv_istore_n (lv' := [(3, .int (iI 1)), (0, .ref (ad 0)), (1, .int (iI ((v : Nat) : Int))), (2, .int (iI d))]) hx hb dX6_later_1 rfl hl (by decide) rfl (fun ls hl => ?_)
  refine mk_iconst hx hb (4) dX6_later_2 ?_
  refine lv_iload_n hx hb dX6_later_3 rfl (lv_at hl 2 rfl) ?_
  refine mk_imul hx hb dX6_later_4 ?_
  refine mk_sayi (y := ((4 * v : Nat) : Int)) (by omega) ?_
  refine lv_istore (lv' := [(4, .int (iI ((4 * v : Nat) : Int))), (3, .int (iI 1)), (0, .ref (ad 0)), (1, .int (iI ((v : Nat) : Int))), (2, .int (iI d))]) hx hb dX6_later_5 hl (by decide) rfl (fun ls hl => ?_)
  have loop7 : ∀ (fuel : Nat) (i : Nat) (acc : Int), (i ≤ mm) → (acc = fla (fun i => st 8 (4 * v + i)) (fun i => st 9 (4 * v + i)) i d) → mm - i < fuel → ∀ (H : Heap) (locs : List Loc) (ls : Array Slot), GW D vwCl 26 (celM cg) ad (wA 26 ad) s.heap st H locs → lv_has ls 5 [(0, .ref (ad 0)), (1, .int (iI ((v : Nat) : Int))), (2, .int (iI d)), (3, .int (iI acc)), (4, .int (iI ((4 * v + i : Nat) : Int)))] → W p l e (headSpec wsX6_later ({ frames := 0, cells := 0, slots := 0, locals := 0 })).room s m args below meth c H locs 0 0 (MQ below (va_Qi (fun (r : Int32) (u : Nat → Nat → Int) => ∃ z : Int, r = iI z ∧ (fun z st1 => st1 = st ∧ z = fla (fun i => st 8 (4 * v + i)) (fun i => st 9 (4 * v + i)) mm d) z u) (mB D vwCl 26 (celM cg) ad) (wA 26 ad)) args s 0 0 (wA 26 ad)) (F0 m 7 ls []) := by
    intro fuel
    induction fuel with
    | zero => intro i acc hi hacc hmu; omega
    | succ fuel ih7 =>
      intro i acc hi hacc hmu H locs ls hW hl
      refine lv_iload hx hb dX6_later_7 (lv_at hl 4 rfl) ?_
      refine mk_iconst hx hb (4) dX6_later_9 ?_
      refine lv_iload_n hx hb dX6_later_10 rfl (lv_at hl 1 rfl) ?_
      refine mk_imul hx hb dX6_later_11 ?_
      refine mk_sayi (y := ((4 * v : Nat) : Int)) (by omega) ?_
      refine lv_aload_n hx hb dX6_later_12 rfl (lv_at hl 0 rfl) ?_
      refine mk_get (ci := 6) (C := RX6) (T := TX6) (N := 30) hx hb hts inX6 hown hK hW 0 (by decide) rfl rfl 7 (by decide) fl29 (fun _ h9 => h9) rfl dX6_later_13 ?_
      refine lv_iload_n hx hb dX6_later_16 rfl (lv_at hl 1 rfl) ?_
      refine mk_iald hx hb hK hW 7 (by decide) rfl 0 rfl (j := v) rfl (by omega) (by decide) dX6_later_17 ?_
      refine mk_sayi (y := ((mm : Nat) : Int)) hm ?_
      refine mk_iadd hx hb dX6_later_18 ?_
      refine mk_icmp_ge (tgt := 53) hx hb dX6_later_19 (by decide) (by omega) (by omega) (fun c_19 => ?_) (fun c_19 => ?_)
      · skip
        refine lv_iload_n hx hb dX6_later_53 rfl (lv_at hl 3 rfl) ?_
        exact mk_retI hx hb hr hlocks hW ⟨rfl, by rw [hacc, show i = mm by omega]⟩ dX6_later_54
      · skip
        refine lv_iload_n hx hb dX6_later_22 rfl (lv_at hl 3 rfl) ?_
        refine lv_aload_n hx hb dX6_later_23 rfl (lv_at hl 0 rfl) ?_
        refine mk_get (ci := 6) (C := RX6) (T := TX6) (N := 30) hx hb hts inX6 hown hK hW 0 (by decide) rfl rfl 8 (by decide) fl32 (fun _ h9 => h9) rfl dX6_later_24 ?_
        refine lv_iload hx hb dX6_later_27 (lv_at hl 4 rfl) ?_
        refine mk_iald hx hb hK hW 8 (by decide) rfl 0 rfl (j := (4 * v + i)) rfl (by omega) (by decide) dX6_later_29 ?_
        have hS9 : (0 ≤ st 8 (4 * v + i) ∧ st 8 (4 * v + i) < 1825) ∧ 2 ≤ st 9 (4 * v + i) ∧ st 9 (4 * v + i) ≤ 5 := hS.2 i (by omega)
        refine lv_iload_n hx hb dX6_later_30 rfl (lv_at hl 2 rfl) ?_
        refine mk_icmp_le (tgt := 44) hx hb dX6_later_31 (by decide) (by omega) (by omega) (fun c_31 => ?_) (fun c_31 => ?_)
        · skip
          refine mk_iconst hx hb (1) dX6_later_44 ?_
          refine mk_imul hx hb dX6_later_45 ?_
          refine lv_istore_n (lv' := [(3, .int (iI (acc * 1))), (0, .ref (ad 0)), (1, .int (iI ((v : Nat) : Int))), (2, .int (iI d)), (4, .int (iI ((4 * v + i : Nat) : Int)))]) hx hb dX6_later_46 rfl hl (by decide) rfl (fun ls hl => ?_)
          refine mk_iinc (w := ((4 * v + i + 1 : Nat) : Int)) (lv' := [(4, .int (iI ((4 * v + i + 1 : Nat) : Int))), (3, .int (iI (acc * 1))), (0, .ref (ad 0)), (1, .int (iI ((v : Nat) : Int))), (2, .int (iI d))]) hx hb dX6_later_47 hl (k := 4) rfl (by omega) (by decide) rfl (fun ls hl => ?_)
          refine lv_goto (tgt := 7) hx hb dX6_later_50 (by decide) ?_
          exact ih7 (i + 1) (acc * 1) (by omega) (by rw [hacc]; unfold fla; rw [pd_succ, if_neg (show ¬ d < st 8 (4 * v + i) by omega)]) (by omega) _ _ _ hW (lv_sub hl [2, 3, 4, 1, 0] rfl)
        · skip
          refine lv_aload_n hx hb dX6_later_34 rfl (lv_at hl 0 rfl) ?_
          refine mk_get (ci := 6) (C := RX6) (T := TX6) (N := 30) hx hb hts inX6 hown hK hW 0 (by decide) rfl rfl 9 (by decide) fl35 (fun _ h9 => h9) rfl dX6_later_35 ?_
          refine lv_iload hx hb dX6_later_38 (lv_at hl 4 rfl) ?_
          refine mk_iald hx hb hK hW 9 (by decide) rfl 0 rfl (j := (4 * v + i)) rfl (by omega) (by decide) dX6_later_40 ?_
          refine lv_goto (tgt := 45) hx hb dX6_later_41 (by decide) ?_
          refine mk_imul hx hb dX6_later_45 ?_
          refine lv_istore_n (lv' := [(3, .int (iI (acc * (st 9 (4 * v + i))))), (0, .ref (ad 0)), (1, .int (iI ((v : Nat) : Int))), (2, .int (iI d)), (4, .int (iI ((4 * v + i : Nat) : Int)))]) hx hb dX6_later_46 rfl hl (by decide) rfl (fun ls hl => ?_)
          refine mk_iinc (w := ((4 * v + i + 1 : Nat) : Int)) (lv' := [(4, .int (iI ((4 * v + i + 1 : Nat) : Int))), (3, .int (iI (acc * (st 9 (4 * v + i))))), (0, .ref (ad 0)), (1, .int (iI ((v : Nat) : Int))), (2, .int (iI d))]) hx hb dX6_later_47 hl (k := 4) rfl (by omega) (by decide) rfl (fun ls hl => ?_)
          refine lv_goto (tgt := 7) hx hb dX6_later_50 (by decide) ?_
          exact ih7 (i + 1) (acc * (st 9 (4 * v + i))) (by omega) (by rw [hacc]; unfold fla; rw [pd_succ, if_pos (show d < st 8 (4 * v + i) by omega)]) (by omega) _ _ _ hW (lv_sub hl [2, 3, 4, 1, 0] rfl)
  exact loop7 _ 0 1 (Nat.zero_le _) rfl (Nat.lt_succ_self _) _ _ _ hW (lv_sub hl [2, 3, 4, 1, 0] rfl)

set_option maxHeartbeats 4000000 in
set_option maxRecDepth 100000 in
theorem c_X6_held (l : Launch) (cg : Nat → ClassId) (D : va_G) (ad : Nat → Nat) (st : Nat → Nat → Int) (v n mm : Nat) (hv : v < 3) (hn : st 0 0 = n) (hJ : JV (st 5) (st 6) (st 1) (st 2) (st 3) (st 4) n) (hm : st 7 v = mm) (hS : SPV (fun i => st 8 (4 * v + i)) (fun i => st 9 (4 * v + i)) mm) (d : Int) (hd : -2147483648 ≤ d ∧ d < 2147483648) : MJ l yX6_held wsX6_held ({ frames := 1, cells := 0, slots := 0, locals := 24 }) D vwCl (TY cg) 26 (celM cg) ad st [.ref (ad 0), .int (iI ((v : Nat) : Int)), .int (iI d)] (fun z st1 => st1 = st ∧ z = (hold (lvb (st 6) (st 1) (v : Int)) (st 5) (st 2) (uni (st 3) (st 2) (fun i => st 8 (4 * v + i)) (fun i => st 9 (4 * v + i)) mm) n d)) := by
  refine mk_open (cc := cX6_held) (maxL := 8) (ret := (some .long)) (by decide) rfl (Nat.le_of_ble_eq_true rfl) ?_
  intro p e s m args below meth c hx hb hml hr hown hts hlocks hK hN hargs ls hl hW
  have hown : s.vm.findClass RX6 = some m.cls := hown
  have hl : lv_has ls 8 [(0, .ref (ad 0)), (1, .int (iI ((v : Nat) : Int))), (2, .int (iI d))] := hl
  have inX6 : ∀ w ∈ wsX60, w ∈ wsX6_held := by decide +kernel
  have fl98 := hts (.fieldLink RX6 98 "GainsReckonerModel" "trades" "I") (by decide +kernel)
  have fl26 := hts (.fieldLink RX6 26 "GainsReckonerModel" "gone" "[Z") (by decide +kernel)
  have fl7 := hts (.fieldLink RX6 7 "GainsReckonerModel" "share" "[I") (by decide +kernel)
  have fl13 := hts (.fieldLink RX6 13 "GainsReckonerModel" "day" "[I") (by decide +kernel)
  have fl16 := hts (.fieldLink RX6 16 "GainsReckonerModel" "count" "[I") (by decide +kernel)
  have fl22 := hts (.fieldLink RX6 22 "GainsReckonerModel" "sale" "[Z") (by decide +kernel)
  have hn6 := hJ.1
  refine mk_lconst hx hb (0) rfl dX6_held_0 ?_
  refine lv_lstore_n (lv' := [(3, .long (lI 0)), (0, .ref (ad 0)), (1, .int (iI ((v : Nat) : Int))), (2, .int (iI d))]) hx hb dX6_held_1 rfl hl (by decide) rfl (fun ls hl => ?_)
  refine mk_iconst hx hb (0) dX6_held_2 ?_
  refine lv_istore (lv' := [(5, .int (iI 0)), (3, .long (lI 0)), (0, .ref (ad 0)), (1, .int (iI ((v : Nat) : Int))), (2, .int (iI d))]) hx hb dX6_held_3 hl (by decide) rfl (fun ls hl => ?_)
  have loop5 : ∀ (fuel : Nat) (k : Nat) (a : Int), (k ≤ n) → (a = hsum (lvb (st 6) (st 1) (v : Int)) (st 5) (st 2) (uni (st 3) (st 2) (fun i => st 8 (4 * v + i)) (fun i => st 9 (4 * v + i)) mm) k d) → n - k < fuel → ∀ (H : Heap) (locs : List Loc) (ls : Array Slot), GW D vwCl 26 (celM cg) ad (wA 26 ad) s.heap st H locs → lv_has ls 8 [(0, .ref (ad 0)), (1, .int (iI ((v : Nat) : Int))), (2, .int (iI d)), (3, .long (lI a)), (5, .int (iI ((k : Nat) : Int)))] → W p l e (headSpec wsX6_held ({ frames := 1, cells := 0, slots := 0, locals := 24 })).room s m args below meth c H locs 0 0 (MQ below (va_Ql (fun (r : Int64) (u : Nat → Nat → Int) => ∃ z : Int, r = lI z ∧ (fun z st1 => st1 = st ∧ z = (hold (lvb (st 6) (st 1) (v : Int)) (st 5) (st 2) (uni (st 3) (st 2) (fun i => st 8 (4 * v + i)) (fun i => st 9 (4 * v + i)) mm) n d)) z u) (mB D vwCl 26 (celM cg) ad) (wA 26 ad)) args s 0 0 (wA 26 ad)) (F0 m 5 ls []) := by
    intro fuel
    induction fuel with
    | zero => intro k a hk ha hmu; omega
    | succ fuel ih5 =>
      intro k a hk ha hmu H locs ls hW hl
      refine lv_iload hx hb dX6_held_5 (lv_at hl 4 rfl) ?_
      refine lv_aload_n hx hb dX6_held_7 rfl (lv_at hl 0 rfl) ?_
      refine mk_get (ci := 6) (C := RX6) (T := TX6) (N := 30) hx hb hts inX6 hown hK hW 0 (by decide) rfl rfl 0 (by decide) fl98 (fun _ h9 => h9) rfl dX6_held_8 ?_
      refine mk_sayi (y := ((n : Nat) : Int)) hn ?_
      refine mk_icmp_ge (tgt := 97) hx hb dX6_held_11 (by decide) (by omega) (by omega) (fun c_11 => ?_) (fun c_11 => ?_)
      · skip
        refine lv_lload_n hx hb dX6_held_97 rfl (lv_at hl 3 rfl) ?_
        exact mk_retJ hx hb hr hlocks hW ⟨rfl, by rw [ha, show k = n by omega]; exact hsum_eq _ _ _ _ _ _⟩ dX6_held_98
      · skip
        refine lv_aload_n hx hb dX6_held_14 rfl (lv_at hl 0 rfl) ?_
        refine mk_get (ci := 6) (C := RX6) (T := TX6) (N := 30) hx hb hts inX6 hown hK hW 0 (by decide) rfl rfl 6 (by decide) fl26 (fun _ h9 => h9) rfl dX6_held_15 ?_
        refine lv_iload hx hb dX6_held_18 (lv_at hl 4 rfl) ?_
        refine mk_zald hx hb hK hW 6 (by decide) rfl 1 rfl (j := k) rfl (by omega) (by decide) dX6_held_20 ?_
        have hj := hJ.2 k (by omega)
        refine mk_if_ne (tgt := 91) hx hb dX6_held_21 (by decide) (by omega) (fun c_21 => ?_) (fun c_21 => ?_)
        · skip
          refine mk_iinc (w := ((k + 1 : Nat) : Int)) (lv' := [(5, .int (iI ((k + 1 : Nat) : Int))), (0, .ref (ad 0)), (1, .int (iI ((v : Nat) : Int))), (2, .int (iI d)), (3, .long (lI a))]) hx hb dX6_held_91 hl (k := 4) rfl (by omega) (by decide) rfl (fun ls hl => ?_)
          refine lv_goto (tgt := 5) hx hb dX6_held_94 (by decide) ?_
          exact ih5 (k + 1) a (by omega) (by rw [ha]; unfold hsum; rw [sm_succ, if_neg (fun h => by have := lvb_t.mp h.1; omega), Int.add_zero]) (by omega) _ _ _ hW (lv_sub hl [1, 2, 3, 4, 0] rfl)
        · skip
          refine lv_aload_n hx hb dX6_held_24 rfl (lv_at hl 0 rfl) ?_
          refine mk_get (ci := 6) (C := RX6) (T := TX6) (N := 30) hx hb hts inX6 hown hK hW 0 (by decide) rfl rfl 1 (by decide) fl7 (fun _ h9 => h9) rfl dX6_held_25 ?_
          refine lv_iload hx hb dX6_held_28 (lv_at hl 4 rfl) ?_
          refine mk_iald hx hb hK hW 1 (by decide) rfl 0 rfl (j := k) rfl (by omega) (by decide) dX6_held_30 ?_
          refine lv_iload_n hx hb dX6_held_31 rfl (lv_at hl 1 rfl) ?_
          refine mk_icmp_ne (tgt := 91) hx hb dX6_held_32 (by decide) (by omega) (by omega) (fun c_32 => ?_) (fun c_32 => ?_)
          · skip
            refine mk_iinc (w := ((k + 1 : Nat) : Int)) (lv' := [(5, .int (iI ((k + 1 : Nat) : Int))), (0, .ref (ad 0)), (1, .int (iI ((v : Nat) : Int))), (2, .int (iI d)), (3, .long (lI a))]) hx hb dX6_held_91 hl (k := 4) rfl (by omega) (by decide) rfl (fun ls hl => ?_)
            refine lv_goto (tgt := 5) hx hb dX6_held_94 (by decide) ?_
            exact ih5 (k + 1) a (by omega) (by rw [ha]; unfold hsum; rw [sm_succ, if_neg (fun h => by have := lvb_t.mp h.1; omega), Int.add_zero]) (by omega) _ _ _ hW (lv_sub hl [1, 2, 3, 4, 0] rfl)
          · skip
            refine lv_aload_n hx hb dX6_held_35 rfl (lv_at hl 0 rfl) ?_
            refine mk_get (ci := 6) (C := RX6) (T := TX6) (N := 30) hx hb hts inX6 hown hK hW 0 (by decide) rfl rfl 2 (by decide) fl13 (fun _ h9 => h9) rfl dX6_held_36 ?_
            refine lv_iload hx hb dX6_held_39 (lv_at hl 4 rfl) ?_
            refine mk_iald hx hb hK hW 2 (by decide) rfl 0 rfl (j := k) rfl (by omega) (by decide) dX6_held_41 ?_
            refine lv_iload_n hx hb dX6_held_42 rfl (lv_at hl 2 rfl) ?_
            refine mk_icmp_gt (tgt := 91) hx hb dX6_held_43 (by decide) (by omega) (by omega) (fun c_43 => ?_) (fun c_43 => ?_)
            · skip
              refine mk_iinc (w := ((k + 1 : Nat) : Int)) (lv' := [(5, .int (iI ((k + 1 : Nat) : Int))), (0, .ref (ad 0)), (1, .int (iI ((v : Nat) : Int))), (2, .int (iI d)), (3, .long (lI a))]) hx hb dX6_held_91 hl (k := 4) rfl (by omega) (by decide) rfl (fun ls hl => ?_)
              refine lv_goto (tgt := 5) hx hb dX6_held_94 (by decide) ?_
              exact ih5 (k + 1) a (by omega) (by rw [ha]; unfold hsum; rw [sm_succ, if_neg (fun h => by omega), Int.add_zero]) (by omega) _ _ _ hW (lv_sub hl [1, 2, 3, 4, 0] rfl)
            · skip
              refine lv_aload_n hx hb dX6_held_46 rfl (lv_at hl 0 rfl) ?_
              refine mk_get (ci := 6) (C := RX6) (T := TX6) (N := 30) hx hb hts inX6 hown hK hW 0 (by decide) rfl rfl 3 (by decide) fl16 (fun _ h9 => h9) rfl dX6_held_47 ?_
              refine lv_iload hx hb dX6_held_50 (lv_at hl 4 rfl) ?_
              refine mk_iald hx hb hK hW 3 (by decide) rfl 0 rfl (j := k) rfl (by omega) (by decide) dX6_held_52 ?_
              refine mk_i2l hx hb dX6_held_53 (by omega) ?_
              refine lv_aload_n hx hb dX6_held_54 rfl (lv_at hl 0 rfl) ?_
              refine lv_iload_n hx hb dX6_held_55 rfl (lv_at hl 1 rfl) ?_
              refine lv_aload_n hx hb dX6_held_56 rfl (lv_at hl 0 rfl) ?_
              refine mk_get (ci := 6) (C := RX6) (T := TX6) (N := 30) hx hb hts inX6 hown hK hW 0 (by decide) rfl rfl 2 (by decide) fl13 (fun _ h9 => h9) rfl dX6_held_57 ?_
              refine lv_iload hx hb dX6_held_60 (lv_at hl 4 rfl) ?_
              refine mk_iald hx hb hK hW 2 (by decide) rfl 0 rfl (j := k) rfl (by omega) (by decide) dX6_held_62 ?_
              refine mk_goI (va_runV (As := [.int (iI ((v : Nat) : Int)), .int (iI (st 2 k))]) (rest := [.long (lI (st 3 k))]) ⟨hx, hb, hml, hown, hts⟩ (c_X6_later l cg D ad st v mm (st 2 k) hv hm hS (by omega)) (cwV 2 hts gX6_held_X6_later rfl rfl rfl (by decide +kernel) ⟨Nat.le_of_ble_eq_true rfl, Nat.le_of_ble_eq_true rfl⟩) (mk_preV hK hN hW 0 (by decide) rfl rfl rfl) rfl rfl hl.1 rfl (lv_room (Nat.le_of_ble_eq_true rfl)) dX6_held_63 ⟨Nat.zero_le _, Nat.zero_le _⟩) hW (fun z st1 hp63 H locs hW => ?_)
              obtain ⟨est1, hz⟩ := hp63
              rw [est1] at hW
              have hfb := fla_bd hS (st 2 k)
              refine mk_i2l hx hb dX6_held_66 (by omega) ?_
              refine mk_lmul hx hb dX6_held_67 ?_
              refine mk_topl (fun x e_x => ?_)
              refine lv_lstore (lv' := [(6, .long (lI x)), (0, .ref (ad 0)), (1, .int (iI ((v : Nat) : Int))), (2, .int (iI d)), (3, .long (lI a)), (5, .int (iI ((k : Nat) : Int)))]) hx hb dX6_held_68 hl (by decide) rfl (fun ls hl => ?_)
              refine lv_lload_n hx hb dX6_held_70 rfl (lv_at hl 4 rfl) ?_
              refine lv_aload_n hx hb dX6_held_71 rfl (lv_at hl 1 rfl) ?_
              refine mk_get (ci := 6) (C := RX6) (T := TX6) (N := 30) hx hb hts inX6 hown hK hW 0 (by decide) rfl rfl 5 (by decide) fl22 (fun _ h9 => h9) rfl dX6_held_72 ?_
              refine lv_iload hx hb dX6_held_75 (lv_at hl 5 rfl) ?_
              refine mk_zald hx hb hK hW 5 (by decide) rfl 1 rfl (j := k) rfl (by omega) (by decide) dX6_held_77 ?_
              refine mk_if_eq (tgt := 87) hx hb dX6_held_78 (by decide) (by omega) (fun c_78 => ?_) (fun c_78 => ?_)
              · skip
                refine lv_lload hx hb dX6_held_87 (lv_at hl 0 rfl) ?_
                refine mk_ladd hx hb dX6_held_89 ?_
                refine lv_lstore_n (lv' := [(3, .long (lI (a + x))), (6, .long (lI x)), (0, .ref (ad 0)), (1, .int (iI ((v : Nat) : Int))), (2, .int (iI d)), (5, .int (iI ((k : Nat) : Int)))]) hx hb dX6_held_90 rfl hl (by decide) rfl (fun ls hl => ?_)
                refine mk_iinc (w := ((k + 1 : Nat) : Int)) (lv' := [(5, .int (iI ((k + 1 : Nat) : Int))), (3, .long (lI (a + x))), (6, .long (lI x)), (0, .ref (ad 0)), (1, .int (iI ((v : Nat) : Int))), (2, .int (iI d))]) hx hb dX6_held_91 hl (k := 5) rfl (by omega) (by decide) rfl (fun ls hl => ?_)
                refine lv_goto (tgt := 5) hx hb dX6_held_94 (by decide) ?_
                exact ih5 (k + 1) (a + x) (by omega) (by rw [ha]; unfold hsum; rw [sm_succ, if_pos ⟨lvb_t.mpr (by omega), by omega⟩, if_pos c_78, e_x, hz]; rfl) (by omega) _ _ _ hW (lv_sub hl [3, 4, 5, 1, 0] rfl)
              · skip
                refine lv_lload hx hb dX6_held_81 (lv_at hl 0 rfl) ?_
                refine mk_lneg hx hb dX6_held_83 ?_
                refine lv_goto (tgt := 89) hx hb dX6_held_84 (by decide) ?_
                refine mk_ladd hx hb dX6_held_89 ?_
                refine lv_lstore_n (lv' := [(3, .long (lI (a + (-x)))), (6, .long (lI x)), (0, .ref (ad 0)), (1, .int (iI ((v : Nat) : Int))), (2, .int (iI d)), (5, .int (iI ((k : Nat) : Int)))]) hx hb dX6_held_90 rfl hl (by decide) rfl (fun ls hl => ?_)
                refine mk_iinc (w := ((k + 1 : Nat) : Int)) (lv' := [(5, .int (iI ((k + 1 : Nat) : Int))), (3, .long (lI (a + (-x)))), (6, .long (lI x)), (0, .ref (ad 0)), (1, .int (iI ((v : Nat) : Int))), (2, .int (iI d))]) hx hb dX6_held_91 hl (k := 5) rfl (by omega) (by decide) rfl (fun ls hl => ?_)
                refine lv_goto (tgt := 5) hx hb dX6_held_94 (by decide) ?_
                exact ih5 (k + 1) (a + (-x)) (by omega) (by rw [ha]; unfold hsum; rw [sm_succ, if_pos ⟨lvb_t.mpr (by omega), by omega⟩, if_neg c_78, e_x, hz]; rfl) (by omega) _ _ _ hW (lv_sub hl [3, 4, 5, 1, 0] rfl)
  exact loop5 _ 0 0 (Nat.zero_le _) rfl (Nat.lt_succ_self _) _ _ _ hW (lv_sub hl [2, 3, 4, 1, 0] rfl)

set_option maxHeartbeats 4000000 in
set_option maxRecDepth 100000 in
theorem c_X6_isBelow (l : Launch) (cg : Nat → ClassId) (D : va_G) (ad : Nat → Nat) (st : Nat → Nat → Int) (v n mm : Nat) (hv : v < 3) (hn : st 0 0 = n) (hJ : JV (st 5) (st 6) (st 1) (st 2) (st 3) (st 4) n) (hm : st 7 v = mm) (hS : SPV (fun i => st 8 (4 * v + i)) (fun i => st 9 (4 * v + i)) mm) : MI l yX6_isBelow wsX6_isBelow ({ frames := 2, cells := 0, slots := 0, locals := 51 }) D vwCl (TY cg) 26 (celM cg) ad st [.ref (ad 0), .int (iI ((v : Nat) : Int))] (fun z st1 => st1 = st ∧ ((z = 1 ∧ ∃ k, k < n ∧ st 1 k = v ∧ (hold (lvb (st 6) (st 1) (v : Int)) (st 5) (st 2) (uni (st 3) (st 2) (fun i => st 8 (4 * v + i)) (fun i => st 9 (4 * v + i)) mm) n (st 2 k)) < 0) ∨ (z = 0 ∧ ∀ k, k < n → st 1 k = v → 0 ≤ (hold (lvb (st 6) (st 1) (v : Int)) (st 5) (st 2) (uni (st 3) (st 2) (fun i => st 8 (4 * v + i)) (fun i => st 9 (4 * v + i)) mm) n (st 2 k))))) := by
  refine mk_open (cc := cX6_isBelow) (maxL := 4) (ret := (some .boolean)) (by decide) rfl (Nat.le_of_ble_eq_true rfl) ?_
  intro p e s m args below meth c hx hb hml hr hown hts hlocks hK hN hargs ls hl hW
  have hown : s.vm.findClass RX6 = some m.cls := hown
  have hl : lv_has ls 4 [(0, .ref (ad 0)), (1, .int (iI ((v : Nat) : Int)))] := hl
  have inX6 : ∀ w ∈ wsX60, w ∈ wsX6_isBelow := by decide +kernel
  have fl98 := hts (.fieldLink RX6 98 "GainsReckonerModel" "trades" "I") (by decide +kernel)
  have fl7 := hts (.fieldLink RX6 7 "GainsReckonerModel" "share" "[I") (by decide +kernel)
  have fl13 := hts (.fieldLink RX6 13 "GainsReckonerModel" "day" "[I") (by decide +kernel)
  have hn6 := hJ.1
  refine mk_iconst hx hb (0) dX6_isBelow_0 ?_
  refine lv_istore_n (lv' := [(2, .int (iI 0)), (0, .ref (ad 0)), (1, .int (iI ((v : Nat) : Int)))]) hx hb dX6_isBelow_1 rfl hl (by decide) rfl (fun ls hl => ?_)
  refine mk_iconst hx hb (0) dX6_isBelow_2 ?_
  refine lv_istore_n (lv' := [(3, .int (iI 0)), (2, .int (iI 0)), (0, .ref (ad 0)), (1, .int (iI ((v : Nat) : Int)))]) hx hb dX6_isBelow_3 rfl hl (by decide) rfl (fun ls hl => ?_)
  have loop4 : ∀ (fuel : Nat) (k : Nat) (b : Int), (k ≤ n) → ((b = 1 ∧ ∃ i, i < k ∧ st 1 i = v ∧ (hold (lvb (st 6) (st 1) (v : Int)) (st 5) (st 2) (uni (st 3) (st 2) (fun i => st 8 (4 * v + i)) (fun i => st 9 (4 * v + i)) mm) n (st 2 i)) < 0) ∨ (b = 0 ∧ ∀ i, i < k → st 1 i = v → 0 ≤ (hold (lvb (st 6) (st 1) (v : Int)) (st 5) (st 2) (uni (st 3) (st 2) (fun i => st 8 (4 * v + i)) (fun i => st 9 (4 * v + i)) mm) n (st 2 i)))) → n - k < fuel → ∀ (H : Heap) (locs : List Loc) (ls : Array Slot), GW D vwCl 26 (celM cg) ad (wA 26 ad) s.heap st H locs → lv_has ls 4 [(0, .ref (ad 0)), (1, .int (iI ((v : Nat) : Int))), (2, .int (iI b)), (3, .int (iI ((k : Nat) : Int)))] → W p l e (headSpec wsX6_isBelow ({ frames := 2, cells := 0, slots := 0, locals := 51 })).room s m args below meth c H locs 0 0 (MQ below (va_Qi (fun (r : Int32) (u : Nat → Nat → Int) => ∃ z : Int, r = iI z ∧ (fun z st1 => st1 = st ∧ ((z = 1 ∧ ∃ k, k < n ∧ st 1 k = v ∧ (hold (lvb (st 6) (st 1) (v : Int)) (st 5) (st 2) (uni (st 3) (st 2) (fun i => st 8 (4 * v + i)) (fun i => st 9 (4 * v + i)) mm) n (st 2 k)) < 0) ∨ (z = 0 ∧ ∀ k, k < n → st 1 k = v → 0 ≤ (hold (lvb (st 6) (st 1) (v : Int)) (st 5) (st 2) (uni (st 3) (st 2) (fun i => st 8 (4 * v + i)) (fun i => st 9 (4 * v + i)) mm) n (st 2 k))))) z u) (mB D vwCl 26 (celM cg) ad) (wA 26 ad)) args s 0 0 (wA 26 ad)) (F0 m 4 ls []) := by
    intro fuel
    induction fuel with
    | zero => intro k b hk hb9 hmu; omega
    | succ fuel ih4 =>
      intro k b hk hb9 hmu H locs ls hW hl
      refine lv_iload_n hx hb dX6_isBelow_4 rfl (lv_at hl 3 rfl) ?_
      refine lv_aload_n hx hb dX6_isBelow_5 rfl (lv_at hl 0 rfl) ?_
      refine mk_get (ci := 6) (C := RX6) (T := TX6) (N := 30) hx hb hts inX6 hown hK hW 0 (by decide) rfl rfl 0 (by decide) fl98 (fun _ h9 => h9) rfl dX6_isBelow_6 ?_
      refine mk_sayi (y := ((n : Nat) : Int)) hn ?_
      refine mk_icmp_ge (tgt := 52) hx hb dX6_isBelow_9 (by decide) (by omega) (by omega) (fun c_9 => ?_) (fun c_9 => ?_)
      · skip
        refine lv_iload_n hx hb dX6_isBelow_52 rfl (lv_at hl 2 rfl) ?_
        exact mk_retZ hx hb hr hlocks hW (by omega) ⟨rfl, by rw [show k = n by omega] at hb9; exact hb9⟩ dX6_isBelow_53
      · skip
        refine lv_iload_n hx hb dX6_isBelow_12 rfl (lv_at hl 2 rfl) ?_
        refine lv_aload_n hx hb dX6_isBelow_13 rfl (lv_at hl 0 rfl) ?_
        refine mk_get (ci := 6) (C := RX6) (T := TX6) (N := 30) hx hb hts inX6 hown hK hW 0 (by decide) rfl rfl 1 (by decide) fl7 (fun _ h9 => h9) rfl dX6_isBelow_14 ?_
        refine lv_iload_n hx hb dX6_isBelow_17 rfl (lv_at hl 3 rfl) ?_
        refine mk_iald hx hb hK hW 1 (by decide) rfl 0 rfl (j := k) rfl (by omega) (by decide) dX6_isBelow_18 ?_
        have hj := hJ.2 k (by omega)
        refine lv_iload_n hx hb dX6_isBelow_19 rfl (lv_at hl 1 rfl) ?_
        refine mk_icmp_ne (tgt := 43) hx hb dX6_isBelow_20 (by decide) (by omega) (by omega) (fun c_20 => ?_) (fun c_20 => ?_)
        · skip
          refine mk_iconst hx hb (0) dX6_isBelow_43 ?_
          have hb01 : b = 0 ∨ b = 1 := by omega
          refine mk_ior hx hb dX6_isBelow_44 (by omega) (by omega) ?_
          refine lv_istore_n (lv' := [(2, .int (iI (max b 0))), (0, .ref (ad 0)), (1, .int (iI ((v : Nat) : Int))), (3, .int (iI ((k : Nat) : Int)))]) hx hb dX6_isBelow_45 rfl hl (by decide) rfl (fun ls hl => ?_)
          refine mk_iinc (w := ((k + 1 : Nat) : Int)) (lv' := [(3, .int (iI ((k + 1 : Nat) : Int))), (2, .int (iI (max b 0))), (0, .ref (ad 0)), (1, .int (iI ((v : Nat) : Int)))]) hx hb dX6_isBelow_46 hl (k := 3) rfl (by omega) (by decide) rfl (fun ls hl => ?_)
          refine lv_goto (tgt := 4) hx hb dX6_isBelow_49 (by decide) ?_
          exact ih4 (k + 1) (max b 0) (by omega) (by rcases hb9 with ⟨h1, i, h2, h3, h4⟩ | ⟨h1, h2⟩; exact Or.inl ⟨by omega, i, by omega, h3, h4⟩; exact Or.inr ⟨by omega, fun i hi h3 => by rcases Nat.lt_or_ge i k with y | y; exact h2 i y h3; rw [show i = k by omega] at h3 ⊢; omega⟩) (by omega) _ _ _ hW (lv_sub hl [2, 3, 1, 0] rfl)
        · skip
          refine lv_aload_n hx hb dX6_isBelow_23 rfl (lv_at hl 0 rfl) ?_
          refine lv_iload_n hx hb dX6_isBelow_24 rfl (lv_at hl 1 rfl) ?_
          refine lv_aload_n hx hb dX6_isBelow_25 rfl (lv_at hl 0 rfl) ?_
          refine mk_get (ci := 6) (C := RX6) (T := TX6) (N := 30) hx hb hts inX6 hown hK hW 0 (by decide) rfl rfl 2 (by decide) fl13 (fun _ h9 => h9) rfl dX6_isBelow_26 ?_
          refine lv_iload_n hx hb dX6_isBelow_29 rfl (lv_at hl 3 rfl) ?_
          refine mk_iald hx hb hK hW 2 (by decide) rfl 0 rfl (j := k) rfl (by omega) (by decide) dX6_isBelow_30 ?_
          refine mk_goJ (va_runV (As := [.int (iI ((v : Nat) : Int)), .int (iI (st 2 k))]) (rest := [.int (iI b)]) ⟨hx, hb, hml, hown, hts⟩ (c_X6_held l cg D ad st v n mm hv hn hJ hm hS (st 2 k) (by omega)) (cwV 2 hts gX6_isBelow_X6_held rfl rfl rfl (by decide +kernel) ⟨Nat.le_of_ble_eq_true rfl, Nat.le_of_ble_eq_true rfl⟩) (mk_preV hK hN hW 0 (by decide) rfl rfl rfl) rfl rfl hl.1 rfl (lv_room (Nat.le_of_ble_eq_true rfl)) dX6_isBelow_31 ⟨Nat.zero_le _, Nat.zero_le _⟩) hW (fun z st1 hp31 H locs hW => ?_)
          obtain ⟨est1, hz⟩ := hp31
          rw [est1] at hW
          have hbd := hold_bd (v := (v : Int)) hJ hS (st 2 k)
          rw [← hz] at hbd
          refine mk_lconst hx hb (0) rfl dX6_isBelow_34 ?_
          refine mk_lcmp hx hb dX6_isBelow_35 (by omega) (by omega) (fun z2 z2l z2e z2g z2r => ?_)
          refine mk_if_ge (tgt := 43) hx hb dX6_isBelow_36 (by decide) (by omega) (fun c_36 => ?_) (fun c_36 => ?_)
          · skip
            refine mk_iconst hx hb (0) dX6_isBelow_43 ?_
            have hb01 : b = 0 ∨ b = 1 := by omega
            refine mk_ior hx hb dX6_isBelow_44 (by omega) (by omega) ?_
            refine lv_istore_n (lv' := [(2, .int (iI (max b 0))), (0, .ref (ad 0)), (1, .int (iI ((v : Nat) : Int))), (3, .int (iI ((k : Nat) : Int)))]) hx hb dX6_isBelow_45 rfl hl (by decide) rfl (fun ls hl => ?_)
            refine mk_iinc (w := ((k + 1 : Nat) : Int)) (lv' := [(3, .int (iI ((k + 1 : Nat) : Int))), (2, .int (iI (max b 0))), (0, .ref (ad 0)), (1, .int (iI ((v : Nat) : Int)))]) hx hb dX6_isBelow_46 hl (k := 3) rfl (by omega) (by decide) rfl (fun ls hl => ?_)
            refine lv_goto (tgt := 4) hx hb dX6_isBelow_49 (by decide) ?_
            exact ih4 (k + 1) (max b 0) (by omega) (by rcases hb9 with ⟨h1, i, h2, h3, h4⟩ | ⟨h1, h2⟩; exact Or.inl ⟨by omega, i, by omega, h3, h4⟩; exact Or.inr ⟨by omega, fun i hi h3 => by rcases Nat.lt_or_ge i k with y | y; exact h2 i y h3; rw [show i = k by omega] at h3 ⊢; rw [← hz]; omega⟩) (by omega) _ _ _ hW (lv_sub hl [2, 3, 1, 0] rfl)
          · skip
            refine mk_iconst hx hb (1) dX6_isBelow_39 ?_
            refine lv_goto (tgt := 44) hx hb dX6_isBelow_40 (by decide) ?_
            have hb01 : b = 0 ∨ b = 1 := by omega
            refine mk_ior hx hb dX6_isBelow_44 (by omega) (by omega) ?_
            refine lv_istore_n (lv' := [(2, .int (iI (max b 1))), (0, .ref (ad 0)), (1, .int (iI ((v : Nat) : Int))), (3, .int (iI ((k : Nat) : Int)))]) hx hb dX6_isBelow_45 rfl hl (by decide) rfl (fun ls hl => ?_)
            refine mk_iinc (w := ((k + 1 : Nat) : Int)) (lv' := [(3, .int (iI ((k + 1 : Nat) : Int))), (2, .int (iI (max b 1))), (0, .ref (ad 0)), (1, .int (iI ((v : Nat) : Int)))]) hx hb dX6_isBelow_46 hl (k := 3) rfl (by omega) (by decide) rfl (fun ls hl => ?_)
            refine lv_goto (tgt := 4) hx hb dX6_isBelow_49 (by decide) ?_
            exact ih4 (k + 1) (max b 1) (by omega) (Or.inl ⟨by omega, k, by omega, by omega, by rw [← hz]; omega⟩) (by omega) _ _ _ hW (lv_sub hl [2, 3, 1, 0] rfl)
  exact loop4 _ 0 0 (Nat.zero_le _) (Or.inr ⟨rfl, fun i hi => absurd hi (by omega)⟩) (Nat.lt_succ_self _) _ _ _ hW (lv_sub hl [2, 3, 1, 0] rfl)

set_option maxHeartbeats 4000000 in
set_option maxRecDepth 100000 in
theorem c_X6_part (l : Launch) (cg : Nat → ClassId) (D : va_G) (ad : Nat → Nat) (st : Nat → Nat → Int) (t q f g : Int) (ht : 0 ≤ t ∧ t ≤ 60000000) (hq : 0 < q ∧ q ≤ 37500000) (hf : 0 ≤ f ∧ f ≤ 37500000) (hg : 0 ≤ g ∧ g ≤ 37500000) : MJ l yX6_part wsX6_part ({ frames := 0, cells := 0, slots := 0, locals := 0 }) D vwCl (TY cg) 26 (celM cg) ad st [.long (lI t), .long (lI q), .long (lI f), .long (lI g)] (fun z st1 => st1 = st ∧ z = prt t q f g) := by
  refine mk_open (cc := cX6_part) (maxL := 8) (ret := (some .long)) (by decide) rfl (Nat.le_of_ble_eq_true rfl) ?_
  intro p e s m args below meth c hx hb hml hr hown hts hlocks hK hN hargs ls hl hW
  have hown : s.vm.findClass RX6 = some m.cls := hown
  have hl : lv_has ls 8 [(0, .long (lI t)), (2, .long (lI q)), (4, .long (lI f)), (6, .long (lI g))] := hl
  have h1 : 0 ≤ t * (f + g) := Int.mul_nonneg ht.1 (by omega)
  have h2 : t * (f + g) ≤ 60000000 * 75000000 := Int.mul_le_mul (by omega) (by omega) (by omega) (by omega)
  have h3 : 0 ≤ t * f := Int.mul_nonneg ht.1 hf.1
  have h4 : t * f ≤ 60000000 * 37500000 := Int.mul_le_mul (by omega) (by omega) (by omega) (by omega)
  refine lv_lload_n hx hb dX6_part_0 rfl (lv_at hl 0 rfl) ?_
  refine lv_lload hx hb dX6_part_1 (lv_at hl 2 rfl) ?_
  refine lv_lload hx hb dX6_part_3 (lv_at hl 3 rfl) ?_
  refine mk_ladd hx hb dX6_part_5 ?_
  refine mk_lmul hx hb dX6_part_6 ?_
  refine lv_lload_n hx hb dX6_part_7 rfl (lv_at hl 1 rfl) ?_
  refine mk_ldiv hx hb dX6_part_8 (by omega) (by omega) ?_
  refine lv_lload_n hx hb dX6_part_9 rfl (lv_at hl 0 rfl) ?_
  refine lv_lload hx hb dX6_part_10 (lv_at hl 2 rfl) ?_
  refine mk_lmul hx hb dX6_part_12 ?_
  refine lv_lload_n hx hb dX6_part_13 rfl (lv_at hl 1 rfl) ?_
  refine mk_ldiv hx hb dX6_part_14 (by omega) (by omega) ?_
  refine mk_lsub hx hb dX6_part_15 ?_
  exact mk_retJ hx hb hr hlocks hW ⟨rfl, rfl⟩ dX6_part_16

