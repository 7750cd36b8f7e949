set_option maxHeartbeats 4000000 in
set_option maxRecDepth 100000 in
theorem c_X0_counts (l : Launch) (cg : Nat → ClassId) (D : va_G) (ad : Nat → Nat) (st : Nat → Nat → Int) (k : Nat) (v : Int) (hk : k < 60) (h4 : -2147483648 ≤ st 24 k ∧ st 24 k < 2147483648) (h3 : -2147483648 ≤ st 23 k ∧ st 23 k < 2147483648) (hv : -2147483648 ≤ v ∧ v < 2147483648) : MI l yX0_counts wsX0_counts ({ frames := 0, cells := 0, slots := 0, locals := 0 }) D vwCl (TY cg) 28 (celL cg) ad st [.ref (ad 21), .int (iI ((k : Nat) : Int)), .int (iI v)] (fun z st1 => st1 = st ∧ ((z = 1 ∧ st 24 k = v ∧ st 23 k = 0) ∨ (z = 0 ∧ ¬ (st 24 k = v ∧ st 23 k = 0)))) := by
  refine mk_open (cc := cX0_counts) (maxL := 3) (ret := (some .boolean)) (by decide) rfl (Nat.le_of_ble_eq_true rfl) ?_
  intro p e s m args below meth c hx hb hml hr hown hts hlocks hK hN hargs ls hl hW
  have hown : s.vm.findClass RX0 = some m.cls := hown
  have hl : lv_has ls 3 [(0, .ref (ad 21)), (1, .int (iI ((k : Nat) : Int))), (2, .int (iI v))] := hl
  have inX0 : ∀ w ∈ wsX00, w ∈ wsX0_counts := by decide +kernel
  have fl18 := hts (.fieldLink RX0 18 "GainsReckoner$Journal" "share" "[I") (by decide +kernel)
  have fl15 := hts (.fieldLink RX0 15 "GainsReckoner$Journal" "cancelled" "[Z") (by decide +kernel)
  refine lv_aload_n hx hb dX0_counts_0 rfl (lv_at hl 0 rfl) ?_
  refine mk_get (ci := 0) (C := RX0) (T := TX0) (N := 7) hx hb hts inX0 hown hK hW 21 (by decide) rfl rfl 2 (by decide) fl18 (fun _ h9 => h9) rfl dX0_counts_1 ?_
  refine lv_iload_n hx hb dX0_counts_4 rfl (lv_at hl 1 rfl) ?_
  refine mk_iald hx hb hK hW 24 (by decide) rfl 0 rfl (j := k) rfl (by omega) (by decide) dX0_counts_5 ?_
  refine lv_iload_n hx hb dX0_counts_6 rfl (lv_at hl 2 rfl) ?_
  refine mk_icmp_ne (tgt := 23) hx hb dX0_counts_7 (by decide) (by omega) (by omega) (fun c_7 => ?_) (fun c_7 => ?_)
  · skip
    refine mk_iconst hx hb (0) dX0_counts_23 ?_
    exact mk_retZ hx hb hr hlocks hW (by omega) ⟨rfl, Or.inr ⟨rfl, by omega⟩⟩ dX0_counts_24
  · skip
    refine lv_aload_n hx hb dX0_counts_10 rfl (lv_at hl 0 rfl) ?_
    refine mk_get (ci := 0) (C := RX0) (T := TX0) (N := 7) hx hb hts inX0 hown hK hW 21 (by decide) rfl rfl 1 (by decide) fl15 (fun _ h9 => h9) rfl dX0_counts_11 ?_
    refine lv_iload_n hx hb dX0_counts_14 rfl (lv_at hl 1 rfl) ?_
    refine mk_zald hx hb hK hW 23 (by decide) rfl 1 rfl (j := k) rfl (by omega) (by decide) dX0_counts_15 ?_
    refine mk_if_ne (tgt := 23) hx hb dX0_counts_16 (by decide) (by omega) (fun c_16 => ?_) (fun c_16 => ?_)
    · skip
      refine mk_iconst hx hb (0) dX0_counts_23 ?_
      exact mk_retZ hx hb hr hlocks hW (by omega) ⟨rfl, Or.inr ⟨rfl, by omega⟩⟩ dX0_counts_24
    · skip
      refine mk_iconst hx hb (1) dX0_counts_19 ?_
      refine lv_goto (tgt := 24) hx hb dX0_counts_20 (by decide) ?_
      exact mk_retZ hx hb hr hlocks hW (by omega) ⟨rfl, Or.inl ⟨rfl, by omega, by omega⟩⟩ dX0_counts_24

set_option maxHeartbeats 4000000 in
set_option maxRecDepth 100000 in
theorem c_X4_factorBetween (l : Launch) (cg : Nat → ClassId) (D : va_G) (ad : Nat → Nat) (st : Nat → Nat → Int) (a b : Int) (mm : Nat) (hm : st 1 2 = mm) (hS : SPV (st 2) (st 3) mm) (ha : -2147483648 ≤ a ∧ a < 2147483648) (hb9 : -2147483648 ≤ b ∧ b < 2147483648) : MI l yX4_factorBetween wsX4_factorBetween ({ frames := 0, cells := 0, slots := 0, locals := 0 }) D vwCl (TY cg) 28 (celL cg) ad st [.ref (ad 1), .int (iI a), .int (iI b)] (fun z st1 => st1 = st ∧ z = fac (st 2) (st 3) mm a b) := by
  refine mk_open (cc := cX4_factorBetween) (maxL := 5) (ret := (some .int)) (by decide) rfl (Nat.le_of_ble_eq_true rfl) ?_
  intro p e s m args below meth c hx hb hml hr hown hts hlocks hK hN hargs ls hl hW
  have hown : s.vm.findClass RX4 = some m.cls := hown
  have hl : lv_has ls 5 [(0, .ref (ad 1)), (1, .int (iI a)), (2, .int (iI b))] := hl
  have inX4 : ∀ w ∈ wsX40, w ∈ wsX4_factorBetween := by decide +kernel
  have fl18 := hts (.fieldLink RX4 18 "GainsReckoner$Splits" "size" "I") (by decide +kernel)
  have fl9 := hts (.fieldLink RX4 9 "GainsReckoner$Splits" "day" "[I") (by decide +kernel)
  have fl15 := hts (.fieldLink RX4 15 "GainsReckoner$Splits" "factor" "[I") (by decide +kernel)
  have h44 := hS.1
  refine mk_iconst hx hb (1) dX4_factorBetween_0 ?_
  refine lv_istore_n (lv' := [(3, .int (iI 1)), (0, .ref (ad 1)), (1, .int (iI a)), (2, .int (iI b))]) hx hb dX4_factorBetween_1 rfl hl (by decide) rfl (fun ls hl => ?_)
  refine mk_iconst hx hb (0) dX4_factorBetween_2 ?_
  refine lv_istore (lv' := [(4, .int (iI 0)), (3, .int (iI 1)), (0, .ref (ad 1)), (1, .int (iI a)), (2, .int (iI b))]) hx hb dX4_factorBetween_3 hl (by decide) rfl (fun ls hl => ?_)
  have loop5 : ∀ (fuel : Nat) (i : Nat) (acc : Int), (i ≤ mm) → (acc = fac (st 2) (st 3) i a b) → mm - i < fuel → ∀ (H : Heap) (locs : List Loc) (ls : Array Slot), GW D vwCl 28 (celL cg) ad (wA 28 ad) s.heap st H locs → lv_has ls 5 [(0, .ref (ad 1)), (1, .int (iI a)), (2, .int (iI b)), (3, .int (iI acc)), (4, .int (iI ((i : Nat) : Int)))] → W p l e (headSpec wsX4_factorBetween ({ frames := 0, cells := 0, slots := 0, locals := 0 })).room s m args below meth c H locs 0 0 (MQ below (va_Qi (fun (r : Int32) (u : Nat → Nat → Int) => ∃ z : Int, r = iI z ∧ (fun z st1 => st1 = st ∧ z = fac (st 2) (st 3) mm a b) z u) (mB D vwCl 28 (celL cg) ad) (wA 28 ad)) args s 0 0 (wA 28 ad)) (F0 m 5 ls []) := by
    intro fuel
    induction fuel with
    | zero => intro i acc hi hacc hmu; omega
    | succ fuel ih5 =>
      intro i acc hi hacc hmu H locs ls hW hl
      have h44 := hS.1
      refine lv_iload hx hb dX4_factorBetween_5 (lv_at hl 4 rfl) ?_
      refine lv_aload_n hx hb dX4_factorBetween_7 rfl (lv_at hl 0 rfl) ?_
      refine mk_get (ci := 4) (C := RX4) (T := TX4) (N := 3) hx hb hts inX4 hown hK hW 1 (by decide) rfl rfl 2 (by decide) fl18 (fun _ h9 => h9) rfl dX4_factorBetween_8 ?_
      refine mk_sayi (y := ((mm : Nat) : Int)) hm ?_
      refine mk_icmp_ge (tgt := 52) hx hb dX4_factorBetween_11 (by decide) (by omega) (by omega) (fun c_11 => ?_) (fun c_11 => ?_)
      · skip
        refine lv_iload_n hx hb dX4_factorBetween_52 rfl (lv_at hl 3 rfl) ?_
        exact mk_retI hx hb hr hlocks hW ⟨rfl, by rw [hacc, show i = mm by omega]⟩ dX4_factorBetween_53
      · skip
        refine lv_aload_n hx hb dX4_factorBetween_14 rfl (lv_at hl 0 rfl) ?_
        refine mk_get (ci := 4) (C := RX4) (T := TX4) (N := 3) hx hb hts inX4 hown hK hW 1 (by decide) rfl rfl 0 (by decide) fl9 (fun _ h9 => h9) rfl dX4_factorBetween_15 ?_
        refine lv_iload hx hb dX4_factorBetween_18 (lv_at hl 4 rfl) ?_
        refine mk_iald hx hb hK hW 2 (by decide) rfl 0 rfl (j := i) rfl (by omega) (by decide) dX4_factorBetween_20 ?_
        have hS9 := (hS.2 i (by omega)).1
        refine lv_iload_n hx hb dX4_factorBetween_21 rfl (lv_at hl 1 rfl) ?_
        refine mk_icmp_le (tgt := 46) hx hb dX4_factorBetween_22 (by decide) (by omega) (by omega) (fun c_22 => ?_) (fun c_22 => ?_)
        · skip
          refine mk_iinc (w := ((i + 1 : Nat) : Int)) (lv' := [(4, .int (iI ((i + 1 : Nat) : Int))), (0, .ref (ad 1)), (1, .int (iI a)), (2, .int (iI b)), (3, .int (iI acc))]) hx hb dX4_factorBetween_46 hl (k := 4) rfl (by omega) (by decide) rfl (fun ls hl => ?_)
          refine lv_goto (tgt := 5) hx hb dX4_factorBetween_49 (by decide) ?_
          exact ih5 (i + 1) acc (by omega) (by rw [hacc]; unfold fac; rw [pd_succ, if_neg (by omega), Int.mul_one]) (by omega) _ _ _ hW (lv_sub hl [1, 2, 3, 4, 0] rfl)
        · skip
          refine lv_aload_n hx hb dX4_factorBetween_25 rfl (lv_at hl 0 rfl) ?_
          refine mk_get (ci := 4) (C := RX4) (T := TX4) (N := 3) hx hb hts inX4 hown hK hW 1 (by decide) rfl rfl 0 (by decide) fl9 (fun _ h9 => h9) rfl dX4_factorBetween_26 ?_
          refine lv_iload hx hb dX4_factorBetween_29 (lv_at hl 4 rfl) ?_
          refine mk_iald hx hb hK hW 2 (by decide) rfl 0 rfl (j := i) rfl (by omega) (by decide) dX4_factorBetween_31 ?_
          have hS9 := (hS.2 i (by omega)).1
          refine lv_iload_n hx hb dX4_factorBetween_32 rfl (lv_at hl 2 rfl) ?_
          refine mk_icmp_gt (tgt := 46) hx hb dX4_factorBetween_33 (by decide) (by omega) (by omega) (fun c_33 => ?_) (fun c_33 => ?_)
          · skip
            refine mk_iinc (w := ((i + 1 : Nat) : Int)) (lv' := [(4, .int (iI ((i + 1 : Nat) : Int))), (0, .ref (ad 1)), (1, .int (iI a)), (2, .int (iI b)), (3, .int (iI acc))]) hx hb dX4_factorBetween_46 hl (k := 4) rfl (by omega) (by decide) rfl (fun ls hl => ?_)
            refine lv_goto (tgt := 5) hx hb dX4_factorBetween_49 (by decide) ?_
            exact ih5 (i + 1) acc (by omega) (by rw [hacc]; unfold fac; rw [pd_succ, if_neg (by omega), Int.mul_one]) (by omega) _ _ _ hW (lv_sub hl [1, 2, 3, 4, 0] rfl)
          · skip
            refine lv_iload_n hx hb dX4_factorBetween_36 rfl (lv_at hl 3 rfl) ?_
            refine lv_aload_n hx hb dX4_factorBetween_37 rfl (lv_at hl 0 rfl) ?_
            refine mk_get (ci := 4) (C := RX4) (T := TX4) (N := 3) hx hb hts inX4 hown hK hW 1 (by decide) rfl rfl 1 (by decide) fl15 (fun _ h9 => h9) rfl dX4_factorBetween_38 ?_
            refine lv_iload hx hb dX4_factorBetween_41 (lv_at hl 4 rfl) ?_
            refine mk_iald hx hb hK hW 3 (by decide) rfl 0 rfl (j := i) rfl (by omega) (by decide) dX4_factorBetween_43 ?_
            refine mk_imul hx hb dX4_factorBetween_44 ?_
            refine lv_istore_n (lv' := [(3, .int (iI (acc * (st 3 i)))), (0, .ref (ad 1)), (1, .int (iI a)), (2, .int (iI b)), (4, .int (iI ((i : Nat) : Int)))]) hx hb dX4_factorBetween_45 rfl hl (by decide) rfl (fun ls hl => ?_)
            refine mk_iinc (w := ((i + 1 : Nat) : Int)) (lv' := [(4, .int (iI ((i + 1 : Nat) : Int))), (3, .int (iI (acc * (st 3 i)))), (0, .ref (ad 1)), (1, .int (iI a)), (2, .int (iI b))]) hx hb dX4_factorBetween_46 hl (k := 4) rfl (by omega) (by decide) rfl (fun ls hl => ?_)
            refine lv_goto (tgt := 5) hx hb dX4_factorBetween_49 (by decide) ?_
            exact ih5 (i + 1) (acc * (st 3 i)) (by omega) (by rw [hacc]; unfold fac; rw [pd_succ, if_pos (by omega)]) (by omega) _ _ _ hW (lv_sub hl [2, 3, 4, 1, 0] rfl)
  exact loop5 _ 0 1 (Nat.zero_le _) rfl (Nat.lt_succ_self _) _ _ _ hW (lv_sub hl [2, 3, 4, 1, 0] rfl)

set_option maxHeartbeats 4000000 in
set_option maxRecDepth 100000 in
theorem c_X4_isFull (l : Launch) (cg : Nat → ClassId) (D : va_G) (ad : Nat → Nat) (st : Nat → Nat → Int) (mm : Nat) (hm : st 1 2 = mm) (h44 : mm ≤ 4) : MI l yX4_isFull wsX4_isFull ({ frames := 0, cells := 0, slots := 0, locals := 0 }) D vwCl (TY cg) 28 (celL cg) ad st [.ref (ad 1)] (fun z st1 => st1 = st ∧ ((z = 1 ∧ mm = 4) ∨ (z = 0 ∧ mm < 4))) := by
  refine mk_open (cc := cX4_isFull) (maxL := 1) (ret := (some .boolean)) (by decide) rfl (Nat.le_of_ble_eq_true rfl) ?_
  intro p e s m args below meth c hx hb hml hr hown hts hlocks hK hN hargs ls hl hW
  have hown : s.vm.findClass RX4 = some m.cls := hown
  have hl : lv_has ls 1 [(0, .ref (ad 1))] := hl
  have inX4 : ∀ w ∈ wsX40, w ∈ wsX4_isFull := by decide +kernel
  have fl18 := hts (.fieldLink RX4 18 "GainsReckoner$Splits" "size" "I") (by decide +kernel)
  refine lv_aload_n hx hb dX4_isFull_0 rfl (lv_at hl 0 rfl) ?_
  refine mk_get (ci := 4) (C := RX4) (T := TX4) (N := 3) hx hb hts inX4 hown hK hW 1 (by decide) rfl rfl 2 (by decide) fl18 (fun _ h9 => h9) rfl dX4_isFull_1 ?_
  refine mk_sayi (y := ((mm : Nat) : Int)) hm ?_
  refine mk_iconst hx hb (4) dX4_isFull_4 ?_
  refine mk_icmp_lt (tgt := 12) hx hb dX4_isFull_5 (by decide) (by omega) (by omega) (fun c_5 => ?_) (fun c_5 => ?_)
  · skip
    refine mk_iconst hx hb (0) dX4_isFull_12 ?_
    exact mk_retZ hx hb hr hlocks hW (by omega) ⟨rfl, Or.inr ⟨rfl, by omega⟩⟩ dX4_isFull_13
  · skip
    refine mk_iconst hx hb (1) dX4_isFull_8 ?_
    refine lv_goto (tgt := 13) hx hb dX4_isFull_9 (by decide) ?_
    exact mk_retZ hx hb hr hlocks hW (by omega) ⟨rfl, Or.inl ⟨rfl, by omega⟩⟩ dX4_isFull_13

set_option maxHeartbeats 4000000 in
set_option maxRecDepth 100000 in
theorem c_X4_hasDay (l : Launch) (cg : Nat → ClassId) (D : va_G) (ad : Nat → Nat) (st : Nat → Nat → Int) (d : Int) (mm : Nat) (hm : st 1 2 = mm) (hS : SPV (st 2) (st 3) mm) (hd : -2147483648 ≤ d ∧ d < 2147483648) : MI l yX4_hasDay wsX4_hasDay ({ frames := 0, cells := 0, slots := 0, locals := 0 }) D vwCl (TY cg) 28 (celL cg) ad st [.ref (ad 1), .int (iI d)] (fun z st1 => st1 = st ∧ ((z = 1 ∧ ∃ i, i < mm ∧ st 2 i = d) ∨ (z = 0 ∧ ∀ i, i < mm → st 2 i ≠ d))) := by
  refine mk_open (cc := cX4_hasDay) (maxL := 3) (ret := (some .boolean)) (by decide) rfl (Nat.le_of_ble_eq_true rfl) ?_
  intro p e s m args below meth c hx hb hml hr hown hts hlocks hK hN hargs ls hl hW
  have hown : s.vm.findClass RX4 = some m.cls := hown
  have hl : lv_has ls 3 [(0, .ref (ad 1)), (1, .int (iI d))] := hl
  have inX4 : ∀ w ∈ wsX40, w ∈ wsX4_hasDay := by decide +kernel
  have fl18 := hts (.fieldLink RX4 18 "GainsReckoner$Splits" "size" "I") (by decide +kernel)
  have fl9 := hts (.fieldLink RX4 9 "GainsReckoner$Splits" "day" "[I") (by decide +kernel)
  have h44 := hS.1
  refine mk_iconst hx hb (0) dX4_hasDay_0 ?_
  refine lv_istore_n (lv' := [(2, .int (iI 0)), (0, .ref (ad 1)), (1, .int (iI d))]) hx hb dX4_hasDay_1 rfl hl (by decide) rfl (fun ls hl => ?_)
  have loop2 : ∀ (fuel : Nat) (i : Nat), (i ≤ mm) → (∀ q, q < i → st 2 q ≠ d) → mm - i < fuel → ∀ (H : Heap) (locs : List Loc) (ls : Array Slot), GW D vwCl 28 (celL cg) ad (wA 28 ad) s.heap st H locs → lv_has ls 3 [(0, .ref (ad 1)), (1, .int (iI d)), (2, .int (iI ((i : Nat) : Int)))] → W p l e (headSpec wsX4_hasDay ({ frames := 0, cells := 0, slots := 0, locals := 0 })).room s m args below meth c H locs 0 0 (MQ below (va_Qi (fun (r : Int32) (u : Nat → Nat → Int) => ∃ z : Int, r = iI z ∧ (fun z st1 => st1 = st ∧ ((z = 1 ∧ ∃ i, i < mm ∧ st 2 i = d) ∨ (z = 0 ∧ ∀ i, i < mm → st 2 i ≠ d))) z u) (mB D vwCl 28 (celL cg) ad) (wA 28 ad)) args s 0 0 (wA 28 ad)) (F0 m 2 ls []) := by
    intro fuel
    induction fuel with
    | zero => intro i hi hno hmu; omega
    | succ fuel ih2 =>
      intro i hi hno hmu H locs ls hW hl
      refine lv_iload_n hx hb dX4_hasDay_2 rfl (lv_at hl 2 rfl) ?_
      refine lv_aload_n hx hb dX4_hasDay_3 rfl (lv_at hl 0 rfl) ?_
      refine mk_get (ci := 4) (C := RX4) (T := TX4) (N := 3) hx hb hts inX4 hown hK hW 1 (by decide) rfl rfl 2 (by decide) fl18 (fun _ h9 => h9) rfl dX4_hasDay_4 ?_
      refine mk_sayi (y := ((mm : Nat) : Int)) hm ?_
      refine mk_icmp_ge (tgt := 28) hx hb dX4_hasDay_7 (by decide) (by omega) (by omega) (fun c_7 => ?_) (fun c_7 => ?_)
      · skip
        refine mk_iconst hx hb (0) dX4_hasDay_28 ?_
        exact mk_retZ hx hb hr hlocks hW (by omega) ⟨rfl, Or.inr ⟨rfl, fun q hq => hno q (by omega)⟩⟩ dX4_hasDay_29
      · skip
        refine lv_aload_n hx hb dX4_hasDay_10 rfl (lv_at hl 0 rfl) ?_
        refine mk_get (ci := 4) (C := RX4) (T := TX4) (N := 3) hx hb hts inX4 hown hK hW 1 (by decide) rfl rfl 0 (by decide) fl9 (fun _ h9 => h9) rfl dX4_hasDay_11 ?_
        refine lv_iload_n hx hb dX4_hasDay_14 rfl (lv_at hl 2 rfl) ?_
        refine mk_iald hx hb hK hW 2 (by decide) rfl 0 rfl (j := i) rfl (by omega) (by decide) dX4_hasDay_15 ?_
        have hS9 := (hS.2 i (by omega)).1
        refine lv_iload_n hx hb dX4_hasDay_16 rfl (lv_at hl 1 rfl) ?_
        refine mk_icmp_ne (tgt := 22) hx hb dX4_hasDay_17 (by decide) (by omega) (by omega) (fun c_17 => ?_) (fun c_17 => ?_)
        · skip
          refine mk_iinc (w := ((i + 1 : Nat) : Int)) (lv' := [(2, .int (iI ((i + 1 : Nat) : Int))), (0, .ref (ad 1)), (1, .int (iI d))]) hx hb dX4_hasDay_22 hl (k := 2) rfl (by omega) (by decide) rfl (fun ls hl => ?_)
          refine lv_goto (tgt := 2) hx hb dX4_hasDay_25 (by decide) ?_
          exact ih2 (i + 1) (by omega) (fun q hq => by rcases Nat.lt_or_ge q i with y | y; exact hno q y; rw [show q = i by omega]; exact c_17) (by omega) _ _ _ hW (lv_sub hl [1, 2, 0] rfl)
        · skip
          refine mk_iconst hx hb (1) dX4_hasDay_20 ?_
          exact mk_retZ hx hb hr hlocks hW (by omega) ⟨rfl, Or.inl ⟨rfl, i, by omega, by omega⟩⟩ dX4_hasDay_21
  exact loop2 _ 0 (Nat.zero_le _) (fun q hq => absurd hq (by omega)) (Nat.lt_succ_self _) _ _ _ hW (lv_sub hl [1, 2, 0] rfl)

set_option maxHeartbeats 4000000 in
set_option maxRecDepth 100000 in
theorem c_X3_lastRowUpTo (l : Launch) (cg : Nat → ClassId) (D : va_G) (ad : Nat → Nat) (st : Nat → Nat → Int) (d : Int) (R : Nat) (hR : st 4 9 = R) (hR6 : R ≤ 60) (hD : ∀ r, r < R → -2147483648 ≤ st 5 r ∧ st 5 r < 2147483648) (hd : -2147483648 ≤ d ∧ d < 2147483648) : MI l yX3_lastRowUpTo wsX3_lastRowUpTo ({ frames := 0, cells := 0, slots := 0, locals := 0 }) D vwCl (TY cg) 28 (celL cg) ad st [.ref (ad 4), .int (iI d)] (fun z st1 => st1 = st ∧ ∃ q : Nat, z = (q : Int) - 1 ∧ q ≤ R ∧ (∀ r, r < q → st 5 r ≤ d) ∧ (q < R → d < st 5 q)) := by
  refine mk_open (cc := cX3_lastRowUpTo) (maxL := 4) (ret := (some .int)) (by decide) rfl (Nat.le_of_ble_eq_true rfl) ?_
  intro p e s m args below meth c hx hb hml hr hown hts hlocks hK hN hargs ls hl hW
  have hown : s.vm.findClass RX3 = some m.cls := hown
  have hl : lv_has ls 4 [(0, .ref (ad 4)), (1, .int (iI d))] := hl
  have inX3 : ∀ w ∈ wsX30, w ∈ wsX3_lastRowUpTo := by decide +kernel
  have fl39 := hts (.fieldLink RX3 39 "GainsReckoner$Sheet" "size" "I") (by decide +kernel)
  have fl9 := hts (.fieldLink RX3 9 "GainsReckoner$Sheet" "day" "[I") (by decide +kernel)
  refine mk_iconst hx hb (-1) dX3_lastRowUpTo_0 ?_
  refine lv_istore_n (lv' := [(2, .int (iI (-1 : Int))), (0, .ref (ad 4)), (1, .int (iI d))]) hx hb dX3_lastRowUpTo_1 rfl hl (by decide) rfl (fun ls hl => ?_)
  refine mk_iconst hx hb (0) dX3_lastRowUpTo_2 ?_
  refine lv_istore_n (lv' := [(3, .int (iI 0)), (2, .int (iI (-1 : Int))), (0, .ref (ad 4)), (1, .int (iI d))]) hx hb dX3_lastRowUpTo_3 rfl hl (by decide) rfl (fun ls hl => ?_)
  have loop4 : ∀ (fuel : Nat) (r : Nat) (f : Int), (r ≤ R) → (f = (r : Int) - 1) → (∀ q, q < r → st 5 q ≤ d) → R - r < fuel → ∀ (H : Heap) (locs : List Loc) (ls : Array Slot), GW D vwCl 28 (celL cg) ad (wA 28 ad) s.heap st H locs → lv_has ls 4 [(0, .ref (ad 4)), (1, .int (iI d)), (2, .int (iI f)), (3, .int (iI ((r : Nat) : Int)))] → W p l e (headSpec wsX3_lastRowUpTo ({ frames := 0, cells := 0, slots := 0, locals := 0 })).room s m args below meth c H locs 0 0 (MQ below (va_Qi (fun (r : Int32) (u : Nat → Nat → Int) => ∃ z : Int, r = iI z ∧ (fun z st1 => st1 = st ∧ ∃ q : Nat, z = (q : Int) - 1 ∧ q ≤ R ∧ (∀ r, r < q → st 5 r ≤ d) ∧ (q < R → d < st 5 q)) z u) (mB D vwCl 28 (celL cg) ad) (wA 28 ad)) args s 0 0 (wA 28 ad)) (F0 m 4 ls []) := by
    intro fuel
    induction fuel with
    | zero => intro r f hr6 hf hle hmu; omega
    | succ fuel ih4 =>
      intro r f hr6 hf hle hmu H locs ls hW hl
      refine lv_iload_n hx hb dX3_lastRowUpTo_4 rfl (lv_at hl 3 rfl) ?_
      refine lv_aload_n hx hb dX3_lastRowUpTo_5 rfl (lv_at hl 0 rfl) ?_
      refine mk_get (ci := 3) (C := RX3) (T := TX3) (N := 10) hx hb hts inX3 hown hK hW 4 (by decide) rfl rfl 9 (by decide) fl39 (fun _ h9 => h9) rfl dX3_lastRowUpTo_6 ?_
      refine mk_sayi (y := ((R : Nat) : Int)) hR ?_
      refine mk_icmp_ge (tgt := 30) hx hb dX3_lastRowUpTo_9 (by decide) (by omega) (by omega) (fun c_9 => ?_) (fun c_9 => ?_)
      · skip
        refine lv_iload_n hx hb dX3_lastRowUpTo_30 rfl (lv_at hl 2 rfl) ?_
        exact mk_retI hx hb hr hlocks hW ⟨rfl, r, hf, hr6, hle, fun h => by omega⟩ dX3_lastRowUpTo_31
      · skip
        refine lv_aload_n hx hb dX3_lastRowUpTo_12 rfl (lv_at hl 0 rfl) ?_
        refine mk_get (ci := 3) (C := RX3) (T := TX3) (N := 10) hx hb hts inX3 hown hK hW 4 (by decide) rfl rfl 0 (by decide) fl9 (fun _ h9 => h9) rfl dX3_lastRowUpTo_13 ?_
        refine lv_iload_n hx hb dX3_lastRowUpTo_16 rfl (lv_at hl 3 rfl) ?_
        refine mk_iald hx hb hK hW 5 (by decide) rfl 0 rfl (j := r) rfl (by omega) (by decide) dX3_lastRowUpTo_17 ?_
        have hD9 := hD r (by omega)
        refine lv_iload_n hx hb dX3_lastRowUpTo_18 rfl (lv_at hl 1 rfl) ?_
        refine mk_icmp_gt (tgt := 30) hx hb dX3_lastRowUpTo_19 (by decide) (by omega) (by omega) (fun c_19 => ?_) (fun c_19 => ?_)
        · skip
          refine lv_iload_n hx hb dX3_lastRowUpTo_30 rfl (lv_at hl 2 rfl) ?_
          exact mk_retI hx hb hr hlocks hW ⟨rfl, r, hf, hr6, hle, fun h => by omega⟩ dX3_lastRowUpTo_31
        · skip
          refine lv_iload_n hx hb dX3_lastRowUpTo_22 rfl (lv_at hl 3 rfl) ?_
          refine lv_istore_n (lv' := [(2, .int (iI ((r : Nat) : Int))), (0, .ref (ad 4)), (1, .int (iI d)), (3, .int (iI ((r : Nat) : Int)))]) hx hb dX3_lastRowUpTo_23 rfl hl (by decide) rfl (fun ls hl => ?_)
          refine mk_iinc (w := ((r + 1 : Nat) : Int)) (lv' := [(3, .int (iI ((r + 1 : Nat) : Int))), (2, .int (iI ((r : Nat) : Int))), (0, .ref (ad 4)), (1, .int (iI d))]) hx hb dX3_lastRowUpTo_24 hl (k := 3) rfl (by omega) (by decide) rfl (fun ls hl => ?_)
          refine lv_goto (tgt := 4) hx hb dX3_lastRowUpTo_27 (by decide) ?_
          exact ih4 (r + 1) ((r : Nat) : Int) (by omega) (by omega) (fun q hq => by rcases Nat.lt_or_ge q r with y | y; exact hle q y; rw [show q = r by omega]; omega) (by omega) _ _ _ hW (lv_sub hl [2, 3, 1, 0] rfl)
  exact loop4 _ 0 (-1) (Nat.zero_le _) rfl (fun q hq => absurd hq (by omega)) (Nat.lt_succ_self _) _ _ _ hW (lv_sub hl [2, 3, 1, 0] rfl)

set_option maxHeartbeats 4000000 in
set_option maxRecDepth 100000 in
theorem c_X3_costOfBuys (l : Launch) (cg : Nat → ClassId) (D : va_G) (ad : Nat → Nat) (st : Nat → Nat → Int) (R : Nat) (hR : st 4 9 = R) (hR6 : R ≤ 60) : MI l yX3_costOfBuys wsX3_costOfBuys ({ frames := 0, cells := 0, slots := 0, locals := 0 }) D vwCl (TY cg) 28 (celL cg) ad st [.ref (ad 4)] (fun z st1 => st1 = st ∧ z = sm (st 8) R) := by
  refine mk_open (cc := cX3_costOfBuys) (maxL := 3) (ret := (some .int)) (by decide) rfl (Nat.le_of_ble_eq_true rfl) ?_
  intro p e s m args below meth c hx hb hml hr hown hts hlocks hK hN hargs ls hl hW
  have hown : s.vm.findClass RX3 = some m.cls := hown
  have hl : lv_has ls 3 [(0, .ref (ad 4))] := hl
  have inX3 : ∀ w ∈ wsX30, w ∈ wsX3_costOfBuys := by decide +kernel
  have fl39 := hts (.fieldLink RX3 39 "GainsReckoner$Sheet" "size" "I") (by decide +kernel)
  have fl21 := hts (.fieldLink RX3 21 "GainsReckoner$Sheet" "cost" "[I") (by decide +kernel)
  refine mk_iconst hx hb (0) dX3_costOfBuys_0 ?_
  refine lv_istore_n (lv' := [(1, .int (iI 0)), (0, .ref (ad 4))]) hx hb dX3_costOfBuys_1 rfl hl (by decide) rfl (fun ls hl => ?_)
  refine mk_iconst hx hb (0) dX3_costOfBuys_2 ?_
  refine lv_istore_n (lv' := [(2, .int (iI 0)), (1, .int (iI 0)), (0, .ref (ad 4))]) hx hb dX3_costOfBuys_3 rfl hl (by decide) rfl (fun ls hl => ?_)
  have loop4 : ∀ (fuel : Nat) (r : Nat) (f : Int), (r ≤ R) → (f = sm (st 8) r) → R - r < fuel → ∀ (H : Heap) (locs : List Loc) (ls : Array Slot), GW D vwCl 28 (celL cg) ad (wA 28 ad) s.heap st H locs → lv_has ls 3 [(0, .ref (ad 4)), (1, .int (iI f)), (2, .int (iI ((r : Nat) : Int)))] → W p l e (headSpec wsX3_costOfBuys ({ frames := 0, cells := 0, slots := 0, locals := 0 })).room s m args below meth c H locs 0 0 (MQ below (va_Qi (fun (r : Int32) (u : Nat → Nat → Int) => ∃ z : Int, r = iI z ∧ (fun z st1 => st1 = st ∧ z = sm (st 8) R) z u) (mB D vwCl 28 (celL cg) ad) (wA 28 ad)) args s 0 0 (wA 28 ad)) (F0 m 4 ls []) := by
    intro fuel
    induction fuel with
    | zero => intro r f hr6 hf hmu; omega
    | succ fuel ih4 =>
      intro r f hr6 hf hmu H locs ls hW hl
      refine lv_iload_n hx hb dX3_costOfBuys_4 rfl (lv_at hl 2 rfl) ?_
      refine lv_aload_n hx hb dX3_costOfBuys_5 rfl (lv_at hl 0 rfl) ?_
      refine mk_get (ci := 3) (C := RX3) (T := TX3) (N := 10) hx hb hts inX3 hown hK hW 4 (by decide) rfl rfl 9 (by decide) fl39 (fun _ h9 => h9) rfl dX3_costOfBuys_6 ?_
      refine mk_sayi (y := ((R : Nat) : Int)) hR ?_
      refine mk_icmp_ge (tgt := 27) hx hb dX3_costOfBuys_9 (by decide) (by omega) (by omega) (fun c_9 => ?_) (fun c_9 => ?_)
      · skip
        refine lv_iload_n hx hb dX3_costOfBuys_27 rfl (lv_at hl 1 rfl) ?_
        exact mk_retI hx hb hr hlocks hW ⟨rfl, by rw [hf, show r = R by omega]⟩ dX3_costOfBuys_28
      · skip
        refine lv_iload_n hx hb dX3_costOfBuys_12 rfl (lv_at hl 1 rfl) ?_
        refine lv_aload_n hx hb dX3_costOfBuys_13 rfl (lv_at hl 0 rfl) ?_
        refine mk_get (ci := 3) (C := RX3) (T := TX3) (N := 10) hx hb hts inX3 hown hK hW 4 (by decide) rfl rfl 3 (by decide) fl21 (fun _ h9 => h9) rfl dX3_costOfBuys_14 ?_
        refine lv_iload_n hx hb dX3_costOfBuys_17 rfl (lv_at hl 2 rfl) ?_
        refine mk_iald hx hb hK hW 8 (by decide) rfl 0 rfl (j := r) rfl (by omega) (by decide) dX3_costOfBuys_18 ?_
        refine mk_iadd hx hb dX3_costOfBuys_19 ?_
        refine lv_istore_n (lv' := [(1, .int (iI (f + (st 8 r)))), (0, .ref (ad 4)), (2, .int (iI ((r : Nat) : Int)))]) hx hb dX3_costOfBuys_20 rfl hl (by decide) rfl (fun ls hl => ?_)
        refine mk_iinc (w := ((r + 1 : Nat) : Int)) (lv' := [(2, .int (iI ((r + 1 : Nat) : Int))), (1, .int (iI (f + (st 8 r)))), (0, .ref (ad 4))]) hx hb dX3_costOfBuys_21 hl (k := 2) rfl (by omega) (by decide) rfl (fun ls hl => ?_)
        refine lv_goto (tgt := 4) hx hb dX3_costOfBuys_24 (by decide) ?_
        exact ih4 (r + 1) (f + (st 8 r)) (by omega) (by rw [hf]; rfl) (by omega) _ _ _ hW (lv_sub hl [2, 1, 0] rfl)
  exact loop4 _ 0 0 (Nat.zero_le _) rfl (Nat.lt_succ_self _) _ _ _ hW (lv_sub hl [2, 1, 0] rfl)

set_option maxHeartbeats 4000000 in
set_option maxRecDepth 100000 in
theorem c_X2_costOfAll (l : Launch) (cg : Nat → ClassId) (D : va_G) (ad : Nat → Nat) (st : Nat → Nat → Int) (M : Nat) (hM : st 14 6 = M) (hM6 : M ≤ 60) : MI l yX2_costOfAll wsX2_costOfAll ({ frames := 0, cells := 0, slots := 0, locals := 0 }) D vwCl (TY cg) 28 (celL cg) ad st [.ref (ad 14)] (fun z st1 => st1 = st ∧ z = sm (st 19) M) := by
  refine mk_open (cc := cX2_costOfAll) (maxL := 3) (ret := (some .int)) (by decide) rfl (Nat.le_of_ble_eq_true rfl) ?_
  intro p e s m args below meth c hx hb hml hr hown hts hlocks hK hN hargs ls hl hW
  have hown : s.vm.findClass RX2 = some m.cls := hown
  have hl : lv_has ls 3 [(0, .ref (ad 14))] := hl
  have inX2 : ∀ w ∈ wsX20, w ∈ wsX2_costOfAll := by decide +kernel
  have fl30 := hts (.fieldLink RX2 30 "GainsReckoner$Matches" "size" "I") (by decide +kernel)
  have fl24 := hts (.fieldLink RX2 24 "GainsReckoner$Matches" "cost" "[I") (by decide +kernel)
  refine mk_iconst hx hb (0) dX2_costOfAll_0 ?_
  refine lv_istore_n (lv' := [(1, .int (iI 0)), (0, .ref (ad 14))]) hx hb dX2_costOfAll_1 rfl hl (by decide) rfl (fun ls hl => ?_)
  refine mk_iconst hx hb (0) dX2_costOfAll_2 ?_
  refine lv_istore_n (lv' := [(2, .int (iI 0)), (1, .int (iI 0)), (0, .ref (ad 14))]) hx hb dX2_costOfAll_3 rfl hl (by decide) rfl (fun ls hl => ?_)
  have loop4 : ∀ (fuel : Nat) (r : Nat) (f : Int), (r ≤ M) → (f = sm (st 19) r) → M - r < fuel → ∀ (H : Heap) (locs : List Loc) (ls : Array Slot), GW D vwCl 28 (celL cg) ad (wA 28 ad) s.heap st H locs → lv_has ls 3 [(0, .ref (ad 14)), (1, .int (iI f)), (2, .int (iI ((r : Nat) : Int)))] → W p l e (headSpec wsX2_costOfAll ({ frames := 0, cells := 0, slots := 0, locals := 0 })).room s m args below meth c H locs 0 0 (MQ below (va_Qi (fun (r : Int32) (u : Nat → Nat → Int) => ∃ z : Int, r = iI z ∧ (fun z st1 => st1 = st ∧ z = sm (st 19) M) z u) (mB D vwCl 28 (celL cg) ad) (wA 28 ad)) args s 0 0 (wA 28 ad)) (F0 m 4 ls []) := by
    intro fuel
    induction fuel with
    | zero => intro r f hr6 hf hmu; omega
    | succ fuel ih4 =>
      intro r f hr6 hf hmu H locs ls hW hl
      refine lv_iload_n hx hb dX2_costOfAll_4 rfl (lv_at hl 2 rfl) ?_
      refine lv_aload_n hx hb dX2_costOfAll_5 rfl (lv_at hl 0 rfl) ?_
      refine mk_get (ci := 2) (C := RX2) (T := TX2) (N := 7) hx hb hts inX2 hown hK hW 14 (by decide) rfl rfl 6 (by decide) fl30 (fun _ h9 => h9) rfl dX2_costOfAll_6 ?_
      refine mk_sayi (y := ((M : Nat) : Int)) hM ?_
      refine mk_icmp_ge (tgt := 27) hx hb dX2_costOfAll_9 (by decide) (by omega) (by omega) (fun c_9 => ?_) (fun c_9 => ?_)
      · skip
        refine lv_iload_n hx hb dX2_costOfAll_27 rfl (lv_at hl 1 rfl) ?_
        exact mk_retI hx hb hr hlocks hW ⟨rfl, by rw [hf, show r = M by omega]⟩ dX2_costOfAll_28
      · skip
        refine lv_iload_n hx hb dX2_costOfAll_12 rfl (lv_at hl 1 rfl) ?_
        refine lv_aload_n hx hb dX2_costOfAll_13 rfl (lv_at hl 0 rfl) ?_
        refine mk_get (ci := 2) (C := RX2) (T := TX2) (N := 7) hx hb hts inX2 hown hK hW 14 (by decide) rfl rfl 4 (by decide) fl24 (fun _ h9 => h9) rfl dX2_costOfAll_14 ?_
        refine lv_iload_n hx hb dX2_costOfAll_17 rfl (lv_at hl 2 rfl) ?_
        refine mk_iald hx hb hK hW 19 (by decide) rfl 0 rfl (j := r) rfl (by omega) (by decide) dX2_costOfAll_18 ?_
        refine mk_iadd hx hb dX2_costOfAll_19 ?_
        refine lv_istore_n (lv' := [(1, .int (iI (f + (st 19 r)))), (0, .ref (ad 14)), (2, .int (iI ((r : Nat) : Int)))]) hx hb dX2_costOfAll_20 rfl hl (by decide) rfl (fun ls hl => ?_)
        refine mk_iinc (w := ((r + 1 : Nat) : Int)) (lv' := [(2, .int (iI ((r + 1 : Nat) : Int))), (1, .int (iI (f + (st 19 r)))), (0, .ref (ad 14))]) hx hb dX2_costOfAll_21 hl (k := 2) rfl (by omega) (by decide) rfl (fun ls hl => ?_)
        refine lv_goto (tgt := 4) hx hb dX2_costOfAll_24 (by decide) ?_
        exact ih4 (r + 1) (f + (st 19 r)) (by omega) (by rw [hf]; rfl) (by omega) _ _ _ hW (lv_sub hl [2, 1, 0] rfl)
  exact loop4 _ 0 0 (Nat.zero_le _) rfl (Nat.lt_succ_self _) _ _ _ hW (lv_sub hl [2, 1, 0] rfl)

set_option maxHeartbeats 4000000 in
set_option maxRecDepth 100000 in
theorem c_X2_gainOfYear (l : Launch) (cg : Nat → ClassId) (D : va_G) (ad : Nat → Nat) (st : Nat → Nat → Int) (y : Int) (M : Nat) (hM : st 14 6 = M) (hM6 : M ≤ 60) (hso : ∀ i, i < M → 0 ≤ st 16 i ∧ st 16 i < 1825) (hy : -2147483648 ≤ y ∧ y < 2147483648) : MI l yX2_gainOfYear wsX2_gainOfYear ({ frames := 0, cells := 0, slots := 0, locals := 0 }) D vwCl (TY cg) 28 (celL cg) ad st [.ref (ad 14), .int (iI y)] (fun z st1 => st1 = st ∧ z = sm (fun i => if st 16 i / 365 = y then st 20 i - st 19 i else 0) M) := by
  refine mk_open (cc := cX2_gainOfYear) (maxL := 4) (ret := (some .int)) (by decide) rfl (Nat.le_of_ble_eq_true rfl) ?_
  intro p e s m args below meth c hx hb hml hr hown hts hlocks hK hN hargs ls hl hW
  have hown : s.vm.findClass RX2 = some m.cls := hown
  have hl : lv_has ls 4 [(0, .ref (ad 14)), (1, .int (iI y))] := hl
  have inX2 : ∀ w ∈ wsX20, w ∈ wsX2_gainOfYear := by decide +kernel
  have fl30 := hts (.fieldLink RX2 30 "GainsReckoner$Matches" "size" "I") (by decide +kernel)
  have fl15 := hts (.fieldLink RX2 15 "GainsReckoner$Matches" "soldOn" "[I") (by decide +kernel)
  have fl27 := hts (.fieldLink RX2 27 "GainsReckoner$Matches" "proceeds" "[I") (by decide +kernel)
  have fl24 := hts (.fieldLink RX2 24 "GainsReckoner$Matches" "cost" "[I") (by decide +kernel)
  refine mk_iconst hx hb (0) dX2_gainOfYear_0 ?_
  refine lv_istore_n (lv' := [(2, .int (iI 0)), (0, .ref (ad 14)), (1, .int (iI y))]) hx hb dX2_gainOfYear_1 rfl hl (by decide) rfl (fun ls hl => ?_)
  refine mk_iconst hx hb (0) dX2_gainOfYear_2 ?_
  refine lv_istore_n (lv' := [(3, .int (iI 0)), (2, .int (iI 0)), (0, .ref (ad 14)), (1, .int (iI y))]) hx hb dX2_gainOfYear_3 rfl hl (by decide) rfl (fun ls hl => ?_)
  have loop4 : ∀ (fuel : Nat) (r : Nat) (f : Int), (r ≤ M) → (f = sm (fun i => if st 16 i / 365 = y then st 20 i - st 19 i else 0) r) → M - r < fuel → ∀ (H : Heap) (locs : List Loc) (ls : Array Slot), GW D vwCl 28 (celL cg) ad (wA 28 ad) s.heap st H locs → lv_has ls 4 [(0, .ref (ad 14)), (1, .int (iI y)), (2, .int (iI f)), (3, .int (iI ((r : Nat) : Int)))] → W p l e (headSpec wsX2_gainOfYear ({ frames := 0, cells := 0, slots := 0, locals := 0 })).room s m args below meth c H locs 0 0 (MQ below (va_Qi (fun (r : Int32) (u : Nat → Nat → Int) => ∃ z : Int, r = iI z ∧ (fun z st1 => st1 = st ∧ z = sm (fun i => if st 16 i / 365 = y then st 20 i - st 19 i else 0) M) z u) (mB D vwCl 28 (celL cg) ad) (wA 28 ad)) args s 0 0 (wA 28 ad)) (F0 m 4 ls []) := by
    intro fuel
    induction fuel with
    | zero => intro r f hr6 hf hmu; omega
    | succ fuel ih4 =>
      intro r f hr6 hf hmu H locs ls hW hl
      refine lv_iload_n hx hb dX2_gainOfYear_4 rfl (lv_at hl 3 rfl) ?_
      refine lv_aload_n hx hb dX2_gainOfYear_5 rfl (lv_at hl 0 rfl) ?_
      refine mk_get (ci := 2) (C := RX2) (T := TX2) (N := 7) hx hb hts inX2 hown hK hW 14 (by decide) rfl rfl 6 (by decide) fl30 (fun _ h9 => h9) rfl dX2_gainOfYear_6 ?_
      refine mk_sayi (y := ((M : Nat) : Int)) hM ?_
      refine mk_icmp_ge (tgt := 48) hx hb dX2_gainOfYear_9 (by decide) (by omega) (by omega) (fun c_9 => ?_) (fun c_9 => ?_)
      · skip
        refine lv_iload_n hx hb dX2_gainOfYear_48 rfl (lv_at hl 2 rfl) ?_
        exact mk_retI hx hb hr hlocks hW ⟨rfl, by rw [hf, show r = M by omega]⟩ dX2_gainOfYear_49
      · skip
        refine lv_aload_n hx hb dX2_gainOfYear_12 rfl (lv_at hl 0 rfl) ?_
        refine mk_get (ci := 2) (C := RX2) (T := TX2) (N := 7) hx hb hts inX2 hown hK hW 14 (by decide) rfl rfl 1 (by decide) fl15 (fun _ h9 => h9) rfl dX2_gainOfYear_13 ?_
        refine lv_iload_n hx hb dX2_gainOfYear_16 rfl (lv_at hl 3 rfl) ?_
        refine mk_iald hx hb hK hW 16 (by decide) rfl 0 rfl (j := r) rfl (by omega) (by decide) dX2_gainOfYear_17 ?_
        have hso9 := hso r (by omega)
        refine mk_sipush hx hb (365) (by decide +kernel) dX2_gainOfYear_18 ?_
        refine mk_idiv hx hb dX2_gainOfYear_21 (by omega) (by omega) ?_
        refine lv_iload_n hx hb dX2_gainOfYear_22 rfl (lv_at hl 1 rfl) ?_
        refine mk_icmp_ne (tgt := 42) hx hb dX2_gainOfYear_23 (by decide) (by omega) (by omega) (fun c_23 => ?_) (fun c_23 => ?_)
        · skip
          refine mk_iinc (w := ((r + 1 : Nat) : Int)) (lv' := [(3, .int (iI ((r + 1 : Nat) : Int))), (0, .ref (ad 14)), (1, .int (iI y)), (2, .int (iI f))]) hx hb dX2_gainOfYear_42 hl (k := 3) rfl (by omega) (by decide) rfl (fun ls hl => ?_)
          refine lv_goto (tgt := 4) hx hb dX2_gainOfYear_45 (by decide) ?_
          exact ih4 (r + 1) f (by omega) (by rw [hf, sm_succ, if_neg c_23, Int.add_zero]) (by omega) _ _ _ hW (lv_sub hl [1, 2, 3, 0] rfl)
        · skip
          refine lv_iload_n hx hb dX2_gainOfYear_26 rfl (lv_at hl 2 rfl) ?_
          refine lv_aload_n hx hb dX2_gainOfYear_27 rfl (lv_at hl 0 rfl) ?_
          refine mk_get (ci := 2) (C := RX2) (T := TX2) (N := 7) hx hb hts inX2 hown hK hW 14 (by decide) rfl rfl 5 (by decide) fl27 (fun _ h9 => h9) rfl dX2_gainOfYear_28 ?_
          refine lv_iload_n hx hb dX2_gainOfYear_31 rfl (lv_at hl 3 rfl) ?_
          refine mk_iald hx hb hK hW 20 (by decide) rfl 0 rfl (j := r) rfl (by omega) (by decide) dX2_gainOfYear_32 ?_
          refine lv_aload_n hx hb dX2_gainOfYear_33 rfl (lv_at hl 0 rfl) ?_
          refine mk_get (ci := 2) (C := RX2) (T := TX2) (N := 7) hx hb hts inX2 hown hK hW 14 (by decide) rfl rfl 4 (by decide) fl24 (fun _ h9 => h9) rfl dX2_gainOfYear_34 ?_
          refine lv_iload_n hx hb dX2_gainOfYear_37 rfl (lv_at hl 3 rfl) ?_
          refine mk_iald hx hb hK hW 19 (by decide) rfl 0 rfl (j := r) rfl (by omega) (by decide) dX2_gainOfYear_38 ?_
          refine mk_isub hx hb dX2_gainOfYear_39 ?_
          refine mk_iadd hx hb dX2_gainOfYear_40 ?_
          refine lv_istore_n (lv' := [(2, .int (iI (f + ((st 20 r) - (st 19 r))))), (0, .ref (ad 14)), (1, .int (iI y)), (3, .int (iI ((r : Nat) : Int)))]) hx hb dX2_gainOfYear_41 rfl hl (by decide) rfl (fun ls hl => ?_)
          refine mk_iinc (w := ((r + 1 : Nat) : Int)) (lv' := [(3, .int (iI ((r + 1 : Nat) : Int))), (2, .int (iI (f + ((st 20 r) - (st 19 r))))), (0, .ref (ad 14)), (1, .int (iI y))]) hx hb dX2_gainOfYear_42 hl (k := 3) rfl (by omega) (by decide) rfl (fun ls hl => ?_)
          refine lv_goto (tgt := 4) hx hb dX2_gainOfYear_45 (by decide) ?_
          exact ih4 (r + 1) (f + ((st 20 r) - (st 19 r))) (by omega) (by rw [hf, sm_succ, if_pos c_23]) (by omega) _ _ _ hW (lv_sub hl [2, 3, 1, 0] rfl)
  exact loop4 _ 0 0 (Nat.zero_le _) rfl (Nat.lt_succ_self _) _ _ _ hW (lv_sub hl [2, 3, 1, 0] rfl)

set_option maxHeartbeats 4000000 in
set_option maxRecDepth 100000 in
theorem c_X5_part (l : Launch) (cg : Nat → ClassId) (D : va_G) (ad : Nat → Nat) (st : Nat → Nat → Int) (t f g q : Int) (ht : 0 ≤ t ∧ t < 2147483648) (hf : 0 ≤ f ∧ f < 2147483648) (hg : 0 ≤ g ∧ g < 2147483648) (hq : 0 ≤ q ∧ q < 2147483648) : MI l yX5_part wsX5_part ({ frames := 0, cells := 0, slots := 0, locals := 0 }) D vwCl (TY cg) 28 (celL cg) ad st [.int (iI t), .int (iI f), .int (iI g), .int (iI q)] (fun z st1 => st1 = st ∧ z = t * g / q - t * f / q) := by
  refine mk_open (cc := cX5_part) (maxL := 4) (ret := (some .int)) (by decide) rfl (Nat.le_of_ble_eq_true rfl) ?_
  intro p e s m args below meth c hx hb hml hr hown hts hlocks hK hN hargs ls hl hW
  have hown : s.vm.findClass RX5 = some m.cls := hown
  have hl : lv_has ls 4 [(0, .int (iI t)), (1, .int (iI f)), (2, .int (iI g)), (3, .int (iI q))] := hl
  have h1 : 0 ≤ t * g := Int.mul_nonneg ht.1 hg.1
  have h2 : t * g ≤ 2147483648 * 2147483648 := Int.mul_le_mul (by omega) (by omega) (by omega) (by omega)
  have h3 : 0 ≤ t * f := Int.mul_nonneg ht.1 hf.1
  have h4 : t * f ≤ 2147483648 * 2147483648 := Int.mul_le_mul (by omega) (by omega) (by omega) (by omega)
  refine lv_iload_n hx hb dX5_part_0 rfl (lv_at hl 3 rfl) ?_
  refine mk_if_gt (tgt := 6) hx hb dX5_part_1 (by decide) (by omega) (fun c_1 => ?_) (fun c_1 => ?_)
  · skip
    refine lv_iload_n hx hb dX5_part_6 rfl (lv_at hl 0 rfl) ?_
    refine mk_i2l hx hb dX5_part_7 (by omega) ?_
    refine lv_iload_n hx hb dX5_part_8 rfl (lv_at hl 2 rfl) ?_
    refine mk_i2l hx hb dX5_part_9 (by omega) ?_
    refine mk_lmul hx hb dX5_part_10 ?_
    refine lv_iload_n hx hb dX5_part_11 rfl (lv_at hl 3 rfl) ?_
    refine mk_i2l hx hb dX5_part_12 (by omega) ?_
    refine mk_ldiv hx hb dX5_part_13 (by omega) (by omega) ?_
    refine lv_iload_n hx hb dX5_part_14 rfl (lv_at hl 0 rfl) ?_
    refine mk_i2l hx hb dX5_part_15 (by omega) ?_
    refine lv_iload_n hx hb dX5_part_16 rfl (lv_at hl 1 rfl) ?_
    refine mk_i2l hx hb dX5_part_17 (by omega) ?_
    refine mk_lmul hx hb dX5_part_18 ?_
    refine lv_iload_n hx hb dX5_part_19 rfl (lv_at hl 3 rfl) ?_
    refine mk_i2l hx hb dX5_part_20 (by omega) ?_
    refine mk_ldiv hx hb dX5_part_21 (by omega) (by omega) ?_
    refine mk_lsub hx hb dX5_part_22 ?_
    refine mk_l2i hx hb dX5_part_23 ?_
    exact mk_retI hx hb hr hlocks hW ⟨rfl, rfl⟩ dX5_part_24
  · skip
    refine mk_iconst hx hb (0) dX5_part_4 ?_
    exact mk_retI hx hb hr hlocks hW ⟨rfl, by rw [show q = 0 by omega]; simp⟩ dX5_part_5

