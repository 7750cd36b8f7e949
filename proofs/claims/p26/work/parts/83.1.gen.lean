-- the share by its number; what buy and sell answer by act
theorem g_holding (l : Launch) (cg : Nat → ClassId) (D : va_G) (ad : Nat → Nat) (st : Nat → Nat → Int) (b : Nat → Nat → Int) (hX : XI st b) (v : Nat) (hv : v < 3) (d : Int) (hd : 0 ≤ d ∧ d < 1825) : MI l yX5_holding wsX5_holding ({ frames := 2, cells := 0, slots := 0, locals := 60 }) D vwCl (TY cg) 73 (celX cg) ad st [.ref (ad 0), .int (iI ((v : Nat) : Int)), .int (iI d)] (fun z st1 => st1 = st ∧ z = bH b v d / fla (bSD b v) (bSF b v) (bM b v) d) := by
  rcases (show v = 0 ∨ v = 1 ∨ v = 2 by omega) with rfl | rfl | rfl
  · exact c_X5_holding_0 l cg D ad st b hX d hd
  · exact c_X5_holding_1 l cg D ad st b hX d hd
  · exact c_X5_holding_2 l cg D ad st b hX d hd
theorem g_act (l : Launch) (cg : Nat → ClassId) (D : va_G) (ad : Nat → Nat) (st : Nat → Nat → Int) (hst : l.stackTraces = false) (b : Nat → Nat → Int) (hX : XI st b) (hn : bN b < 60) (w : Nat) (hw : w < 2) (v : Nat) (hv : v < 3) (d ct mo : Int) (hd : 0 ≤ d ∧ d < 1825) (hc : 1 ≤ ct ∧ ct ≤ 1000) (hm : 0 ≤ mo ∧ mo ≤ 1000000) : WI l yL_act wsL_act ({ frames := 9, cells := 1, slots := 6, locals := 180 }) D vwCl (TY cg) 73 (celX cg) ad st [.ref (ad 0), .int (iI ((w : Nat) : Int)), .int (iI ((v : Nat) : Int)), .int (iI d), .int (iI ct), .int (iI mo)] (fun z st1 => (w = 0 ∧ (0 ≤ z ∧ z < 60) ∧ XI st1 (entM b ((v : Nat) : Int) d ct mo 0)) ∨ (w = 1 ∧ (0 ≤ z ∧ z < 60) ∧ XI st1 (entM b ((v : Nat) : Int) d ct mo 1)) ∨ (w = 1 ∧ z = -93 ∧ st1 = st)) := by
  rcases (show w = 0 ∨ w = 1 by omega) with rfl | rfl
  · have fin : ∀ (z : Int) (u : Nat → Nat → Int), (XI u (entM b ((v : Nat) : Int) d ct mo 0) ∧ z = bN b) → ((0 : Nat) = 0 ∧ (0 ≤ z ∧ z < 60) ∧ XI u (entM b ((v : Nat) : Int) d ct mo 0)) ∨ ((0 : Nat) = 1 ∧ (0 ≤ z ∧ z < 60) ∧ XI u (entM b ((v : Nat) : Int) d ct mo 1)) ∨ ((0 : Nat) = 1 ∧ z = -93 ∧ u = st) := fun z u h => Or.inl ⟨rfl, by have := h.2; omega, h.1⟩
    rcases (show v = 0 ∨ v = 1 ∨ v = 2 by omega) with rfl | rfl | rfl
    · exact WI.mono (c_L_act_buy_ok l cg D ad st 0 d ct mo _ (c_X5_buy_0 l cg D ad st b hX d ct mo hn hd hc hm)) fin
    · exact WI.mono (c_L_act_buy_ok l cg D ad st 1 d ct mo _ (c_X5_buy_1 l cg D ad st b hX d ct mo hn hd hc hm)) fin
    · exact WI.mono (c_L_act_buy_ok l cg D ad st 2 d ct mo _ (c_X5_buy_2 l cg D ad st b hX d ct mo hn hd hc hm)) fin
  · have fin : ∀ (z : Int) (u : Nat → Nat → Int), (XI u (entM b ((v : Nat) : Int) d ct mo 1) ∧ z = bN b) → ((1 : Nat) = 0 ∧ (0 ≤ z ∧ z < 60) ∧ XI u (entM b ((v : Nat) : Int) d ct mo 0)) ∨ ((1 : Nat) = 1 ∧ (0 ≤ z ∧ z < 60) ∧ XI u (entM b ((v : Nat) : Int) d ct mo 1)) ∨ ((1 : Nat) = 1 ∧ z = -93 ∧ u = st) := fun z u h => Or.inr (Or.inl ⟨rfl, by have := h.2; omega, h.1⟩)
    have fno : ∀ (z : Int) (u : Nat → Nat → Int), (z = -93 ∧ u = st) → ((1 : Nat) = 0 ∧ (0 ≤ z ∧ z < 60) ∧ XI u (entM b ((v : Nat) : Int) d ct mo 0)) ∨ ((1 : Nat) = 1 ∧ (0 ≤ z ∧ z < 60) ∧ XI u (entM b ((v : Nat) : Int) d ct mo 1)) ∨ ((1 : Nat) = 1 ∧ z = -93 ∧ u = st) := fun z u h => Or.inr (Or.inr ⟨rfl, h.1, h.2⟩)
    by_cases hs : ∃ e, d ≤ e ∧ bH b v e < ct * fla (bSD b v) (bSF b v) (bM b v) d
    · rcases (show v = 0 ∨ v = 1 ∨ v = 2 by omega) with rfl | rfl | rfl
      · exact WI.mono (c_L_act_sell_no3 l cg D ad st 0 d ct mo (c_X5_sell_noS_0 l cg D ad st hst b hX d ct mo hd hc hm hn hs)) fno
      · exact WI.mono (c_L_act_sell_no3 l cg D ad st 1 d ct mo (c_X5_sell_noS_1 l cg D ad st hst b hX d ct mo hd hc hm hn hs)) fno
      · exact WI.mono (c_L_act_sell_no3 l cg D ad st 2 d ct mo (c_X5_sell_noS_2 l cg D ad st hst b hX d ct mo hd hc hm hn hs)) fno
    · have hs2 : ∀ e, d ≤ e → ct * fla (bSD b v) (bSF b v) (bM b v) d ≤ bH b v e := fun e he => Int.not_lt.mp fun q => hs ⟨e, he, q⟩
      rcases (show v = 0 ∨ v = 1 ∨ v = 2 by omega) with rfl | rfl | rfl
      · exact WI.mono (c_L_act_sell_ok l cg D ad st 0 d ct mo _ (c_X5_sell_0 l cg D ad st b hX d ct mo hn hd hc hm hs2)) fin
      · exact WI.mono (c_L_act_sell_ok l cg D ad st 1 d ct mo _ (c_X5_sell_1 l cg D ad st b hX d ct mo hn hd hc hm hs2)) fin
      · exact WI.mono (c_L_act_sell_ok l cg D ad st 2 d ct mo _ (c_X5_sell_2 l cg D ad st b hX d ct mo hn hd hc hm hs2)) fin
