def POR (C : Prop) (P : Int → Prop) (b : Nat → Nat → Int) (k v : Int) (b1 : Nat → Nat → Int) : Prop := (¬ C ∧ k = 1 ∧ b1 = b) ∨ (C ∧ k = 0 ∧ P v ∧ b1 = b)
/-- two answers of one operation -/
def SAME (k v : Int) (b1 : Nat → Nat → Int) (k2 v2 : Int) (b2 : Nat → Nat → Int) : Prop := k = k2 ∧ (k = 0 → v = v2) ∧ b1 = b2
theorem POR.f {C : Prop} {P : Int → Prop} {b b1 b2 : Nat → Nat → Int} {k v k2 v2 : Int} (hP : ∀ v v2, P v → P v2 → v = v2) (h1 : POR C P b k v b1) (h2 : POR C P b k2 v2 b2) : SAME k v b1 k2 v2 b2 := by
  rcases h1 with ⟨a1, a2, a3⟩ | ⟨a1, a2, a3, a4⟩ <;> rcases h2 with ⟨c1, c2, c3⟩ | ⟨c1, c2, c3, c4⟩
  · exact ⟨by omega, fun h => by omega, by rw [a3, c3]⟩
  · exact absurd c1 a1
  · exact absurd a1 c1
  · exact ⟨by omega, fun _ => hP _ _ a3 c3, by rw [a4, c4]⟩
theorem XI.on {x w b : Nat → Nat → Int} (hX : XI x b) (h : ∀ k, k < 73 → w k = x k) : XI w b := by
  have hs : ∀ u, u < 3 → ∀ k, k < 28 → sub (embL u) w k = sub (embL u) x k := fun u hu k hk => h _ (embL_lt hu hk)
  obtain ⟨hB, ⟨j1, j2, j3, j4, j5⟩, hL, hz⟩ := hX
  refine ⟨hB, ⟨?_, ?_, fun k hk => ?_, fun v hv => ?_, fun y hy => ?_⟩, fun v hv => (hL v hv).cells fun k hk => hs v hv k (by omega), ?_⟩
  · rw [h 1 (by omega)]; exact j1
  · rw [h 0 (by omega)]; exact j2
  · rw [h 4 (by omega), h 5 (by omega), h 6 (by omega), h 7 (by omega), h 2 (by omega), h 3 (by omega)]; exact j3 k hk
  · rw [hs v hv 1 (by omega), hs v hv 2 (by omega), hs v hv 3 (by omega)]; exact j4 v hv
  · rw [h 72 (by omega)]; exact j5 y hy
  · rw [h 3 (by omega)]; exact hz
theorem up_id {u st : Nat → Nat → Int} {k : Nat} (hk : k < 73) : up 73 (fun k => k) u st k = u k := up_in (em := fun k => k) (fun _ _ _ _ h => h) hk u st
theorem XI_up {u st b : Nat → Nat → Int} (hX : XI u b) : XI (up 73 (fun k => k) u st) b := hX.on fun k hk => up_id hk
theorem XI_out {u st b : Nat → Nat → Int} {f : Nat → Int} (hX : XI u b) : XI (stC (up 73 (fun k => k) u st) 73 f) b := hX.on fun k hk => (stC_ne (by omega)).trans (up_id hk)
section FIN
variable {st b : Nat → Nat → Int} {C : Prop} {P Pv : Int → Prop}
theorem rd_fin (hX : XI st b) (hC : C) (h : ∀ v, Pv v → P v) : ∀ (z : Int) (u : Nat → Nat → Int), (z = 0 ∧ ∃ (v : Int) (u1 : Nat → Nat → Int), (u1 = st ∧ Pv v) ∧ u = stC (up 73 (fun k => k) u1 st) 73 (fnU (up 73 (fun k => k) u1 st 73) 0 (wr v))) → ∃ (v : Int) (b1 : Nat → Nat → Int), POR C P b z v b1 ∧ XI u b1 ∧ (z = 0 → u 73 0 = wr v) := by
  rintro z u ⟨h1, v, u1, ⟨h2, h3⟩, h4⟩
  exact ⟨v, b, Or.inr ⟨hC, h1, h v h3, rfl⟩, by rw [h4]; exact XI_out (by rw [h2]; exact hX), fun _ => by rw [h4, stC_eq, fnU_eq]⟩
theorem no_fin (hX : XI st b) (hC : ¬ C) : ∀ (z : Int) (u : Nat → Nat → Int), (z = 1 ∧ u = st) → ∃ (v : Int) (b1 : Nat → Nat → Int), POR C P b z v b1 ∧ XI u b1 ∧ (z = 0 → u 73 0 = wr v) := by
  rintro z u ⟨h1, h2⟩
  exact ⟨0, b, Or.inl ⟨hC, h1, rfl⟩, by rw [h2]; exact hX, fun h => by omega⟩
theorem mrd_fin (hC : C) (h : ∀ v, Pv v → P v) : ∀ (z : Int) (u : Nat → Nat → Int), (MW st u ∧ u 0 29 = 0 ∧ Pv z) → ∃ b1, POR C P st (u 0 29) z b1 ∧ BEq b1 u := fun z u ⟨h1, h2, h3⟩ => ⟨st, Or.inr ⟨hC, h2, h z h3, rfl⟩, h1.be⟩
theorem mno_fin (hC : ¬ C) : ∀ (z : Int) (u : Nat → Nat → Int), (MW st u ∧ u 0 29 = 1) → ∃ b1, POR C P st (u 0 29) z b1 ∧ BEq b1 u := fun z u ⟨h1, h2⟩ => ⟨st, Or.inl ⟨hC, h2, rfl⟩, h1.be⟩
end FIN

def C_holding (b : Nat → Nat → Int) (RR : Nat → Nat) (DD : Nat → Nat → Int) (a d : Int) : Prop := ((0 ≤ a ∧ a ≤ 2) ∧ 0 ≤ d ∧ d ≤ 1824)
def P_holding (b : Nat → Nat → Int) (RR : Nat → Nat) (DD : Nat → Nat → Int) (a d : Int) (v : Int) : Prop := v = bH b a.toNat d / fla (bSD b a.toNat) (bSF b a.toNat) (bM b a.toNat) d
theorem P_holding_f (b : Nat → Nat → Int) (RR : Nat → Nat) (DD : Nat → Nat → Int) (a d : Int) {v v2 : Int} (h1 : P_holding b RR DD a d v) (h2 : P_holding b RR DD a d v2) : v = v2 := h1.trans h2.symm

def C_poolUnits (b : Nat → Nat → Int) (RR : Nat → Nat) (DD : Nat → Nat → Int) (a d : Int) : Prop := ((0 ≤ a ∧ a ≤ 2) ∧ 0 ≤ d ∧ d ≤ 1824)
def P_poolUnits (b : Nat → Nat → Int) (RR : Nat → Nat) (DD : Nat → Nat → Int) (a d : Int) (v : Int) : Prop := ∃ q, cutR (DD a.toNat) (RR a.toNat) d q ∧ v = bPU b a.toNat (RR a.toNat) (DD a.toNat) q
theorem P_poolUnits_f (b : Nat → Nat → Int) (RR : Nat → Nat) (DD : Nat → Nat → Int) (a d : Int) {v v2 : Int} (h1 : P_poolUnits b RR DD a d v) (h2 : P_poolUnits b RR DD a d v2) : v = v2 := by obtain ⟨q, h3, h4⟩ := h1; obtain ⟨q2, h5, h6⟩ := h2; have h7 := h3.uniq h5; subst h7; exact h4.trans h6.symm

def C_poolCost (b : Nat → Nat → Int) (RR : Nat → Nat) (DD : Nat → Nat → Int) (a d : Int) : Prop := ((0 ≤ a ∧ a ≤ 2) ∧ 0 ≤ d ∧ d ≤ 1824)
def P_poolCost (b : Nat → Nat → Int) (RR : Nat → Nat) (DD : Nat → Nat → Int) (a d : Int) (v : Int) : Prop := ∃ q, cutR (DD a.toNat) (RR a.toNat) d q ∧ v = bPC b a.toNat (RR a.toNat) (DD a.toNat) q
theorem P_poolCost_f (b : Nat → Nat → Int) (RR : Nat → Nat) (DD : Nat → Nat → Int) (a d : Int) {v v2 : Int} (h1 : P_poolCost b RR DD a d v) (h2 : P_poolCost b RR DD a d v2) : v = v2 := by obtain ⟨q, h3, h4⟩ := h1; obtain ⟨q2, h5, h6⟩ := h2; have h7 := h3.uniq h5; subst h7; exact h4.trans h6.symm

def C_costIn (b : Nat → Nat → Int) (RR : Nat → Nat) (DD : Nat → Nat → Int) (a : Int) : Prop := (0 ≤ a ∧ a ≤ 2)
def P_costIn (b : Nat → Nat → Int) (RR : Nat → Nat) (DD : Nat → Nat → Int) (a : Int) (v : Int) : Prop := v = sm (fun k => if bL b a.toNat k = true then wB (b 5) (b 4) k else 0) (bN b)
theorem P_costIn_f (b : Nat → Nat → Int) (RR : Nat → Nat) (DD : Nat → Nat → Int) (a : Int) {v v2 : Int} (h1 : P_costIn b RR DD a v) (h2 : P_costIn b RR DD a v2) : v = v2 := h1.trans h2.symm

def C_costMatched (b : Nat → Nat → Int) (RR : Nat → Nat) (DD : Nat → Nat → Int) (a : Int) : Prop := (0 ≤ a ∧ a ≤ 2)
def P_costMatched (b : Nat → Nat → Int) (RR : Nat → Nat) (DD : Nat → Nat → Int) (a : Int) (v : Int) : Prop := v = lsum mco (bMM b a.toNat (RR a.toNat) (DD a.toNat))
theorem P_costMatched_f (b : Nat → Nat → Int) (RR : Nat → Nat) (DD : Nat → Nat → Int) (a : Int) {v v2 : Int} (h1 : P_costMatched b RR DD a v) (h2 : P_costMatched b RR DD a v2) : v = v2 := h1.trans h2.symm

def C_matches (b : Nat → Nat → Int) (RR : Nat → Nat) (DD : Nat → Nat → Int) (a : Int) : Prop := (0 ≤ a ∧ a ≤ 2)
def P_matches (b : Nat → Nat → Int) (RR : Nat → Nat) (DD : Nat → Nat → Int) (a : Int) (v : Int) : Prop := v = ((bAA b a.toNat (RR a.toNat) (DD a.toNat)).length : Int)
theorem P_matches_f (b : Nat → Nat → Int) (RR : Nat → Nat) (DD : Nat → Nat → Int) (a : Int) {v v2 : Int} (h1 : P_matches b RR DD a v) (h2 : P_matches b RR DD a v2) : v = v2 := h1.trans h2.symm

def C_kindOf (b : Nat → Nat → Int) (RR : Nat → Nat) (DD : Nat → Nat → Int) (a d : Int) : Prop := ((0 ≤ a ∧ a ≤ 2) ∧ 0 ≤ d ∧ d < (bAA b a.toNat (RR a.toNat) (DD a.toNat)).length)
def P_kindOf (b : Nat → Nat → Int) (RR : Nat → Nat) (DD : Nat → Nat → Int) (a d : Int) (v : Int) : Prop := ∃ x, (bAA b a.toNat (RR a.toNat) (DD a.toNat))[d.toNat]? = some x ∧ v = x.2.2.1
theorem P_kindOf_f (b : Nat → Nat → Int) (RR : Nat → Nat) (DD : Nat → Nat → Int) (a d : Int) {v v2 : Int} (h1 : P_kindOf b RR DD a d v) (h2 : P_kindOf b RR DD a d v2) : v = v2 := by obtain ⟨x, h3, h4⟩ := h1; obtain ⟨x2, h5, h6⟩ := h2; have h7 := Option.some.inj (h3.symm.trans h5); subst h7; exact h4.trans h6.symm

def C_saleDay (b : Nat → Nat → Int) (RR : Nat → Nat) (DD : Nat → Nat → Int) (a d : Int) : Prop := ((0 ≤ a ∧ a ≤ 2) ∧ 0 ≤ d ∧ d < (bAA b a.toNat (RR a.toNat) (DD a.toNat)).length)
def P_saleDay (b : Nat → Nat → Int) (RR : Nat → Nat) (DD : Nat → Nat → Int) (a d : Int) (v : Int) : Prop := ∃ x, (bAA b a.toNat (RR a.toNat) (DD a.toNat))[d.toNat]? = some x ∧ v = (DD a.toNat) x.1
theorem P_saleDay_f (b : Nat → Nat → Int) (RR : Nat → Nat) (DD : Nat → Nat → Int) (a d : Int) {v v2 : Int} (h1 : P_saleDay b RR DD a d v) (h2 : P_saleDay b RR DD a d v2) : v = v2 := by obtain ⟨x, h3, h4⟩ := h1; obtain ⟨x2, h5, h6⟩ := h2; have h7 := Option.some.inj (h3.symm.trans h5); subst h7; exact h4.trans h6.symm

def C_buyDay (b : Nat → Nat → Int) (RR : Nat → Nat) (DD : Nat → Nat → Int) (a d : Int) : Prop := ((0 ≤ a ∧ a ≤ 2) ∧ 0 ≤ d ∧ d < (bAA b a.toNat (RR a.toNat) (DD a.toNat)).length)
def P_buyDay (b : Nat → Nat → Int) (RR : Nat → Nat) (DD : Nat → Nat → Int) (a d : Int) (v : Int) : Prop := ∃ x, (bAA b a.toNat (RR a.toNat) (DD a.toNat))[d.toNat]? = some x ∧ v = bD (DD a.toNat) x.2.1
theorem P_buyDay_f (b : Nat → Nat → Int) (RR : Nat → Nat) (DD : Nat → Nat → Int) (a d : Int) {v v2 : Int} (h1 : P_buyDay b RR DD a d v) (h2 : P_buyDay b RR DD a d v2) : v = v2 := by obtain ⟨x, h3, h4⟩ := h1; obtain ⟨x2, h5, h6⟩ := h2; have h7 := Option.some.inj (h3.symm.trans h5); subst h7; exact h4.trans h6.symm

def C_unitsOf (b : Nat → Nat → Int) (RR : Nat → Nat) (DD : Nat → Nat → Int) (a d : Int) : Prop := ((0 ≤ a ∧ a ≤ 2) ∧ 0 ≤ d ∧ d < (bAA b a.toNat (RR a.toNat) (DD a.toNat)).length)
def P_unitsOf (b : Nat → Nat → Int) (RR : Nat → Nat) (DD : Nat → Nat → Int) (a d : Int) (v : Int) : Prop := ∃ x, (bAA b a.toNat (RR a.toNat) (DD a.toNat))[d.toNat]? = some x ∧ v = x.2.2.2.1
theorem P_unitsOf_f (b : Nat → Nat → Int) (RR : Nat → Nat) (DD : Nat → Nat → Int) (a d : Int) {v v2 : Int} (h1 : P_unitsOf b RR DD a d v) (h2 : P_unitsOf b RR DD a d v2) : v = v2 := by obtain ⟨x, h3, h4⟩ := h1; obtain ⟨x2, h5, h6⟩ := h2; have h7 := Option.some.inj (h3.symm.trans h5); subst h7; exact h4.trans h6.symm

def C_costOf (b : Nat → Nat → Int) (RR : Nat → Nat) (DD : Nat → Nat → Int) (a d : Int) : Prop := ((0 ≤ a ∧ a ≤ 2) ∧ 0 ≤ d ∧ d < (bAA b a.toNat (RR a.toNat) (DD a.toNat)).length)
def P_costOf (b : Nat → Nat → Int) (RR : Nat → Nat) (DD : Nat → Nat → Int) (a d : Int) (v : Int) : Prop := ∃ x, (bAA b a.toNat (RR a.toNat) (DD a.toNat))[d.toNat]? = some x ∧ v = mco x
theorem P_costOf_f (b : Nat → Nat → Int) (RR : Nat → Nat) (DD : Nat → Nat → Int) (a d : Int) {v v2 : Int} (h1 : P_costOf b RR DD a d v) (h2 : P_costOf b RR DD a d v2) : v = v2 := by obtain ⟨x, h3, h4⟩ := h1; obtain ⟨x2, h5, h6⟩ := h2; have h7 := Option.some.inj (h3.symm.trans h5); subst h7; exact h4.trans h6.symm

def C_proceedsOf (b : Nat → Nat → Int) (RR : Nat → Nat) (DD : Nat → Nat → Int) (a d : Int) : Prop := ((0 ≤ a ∧ a ≤ 2) ∧ 0 ≤ d ∧ d < (bAA b a.toNat (RR a.toNat) (DD a.toNat)).length)
def P_proceedsOf (b : Nat → Nat → Int) (RR : Nat → Nat) (DD : Nat → Nat → Int) (a d : Int) (v : Int) : Prop := ∃ x, (bAA b a.toNat (RR a.toNat) (DD a.toNat))[d.toNat]? = some x ∧ v = mpr x
theorem P_proceedsOf_f (b : Nat → Nat → Int) (RR : Nat → Nat) (DD : Nat → Nat → Int) (a d : Int) {v v2 : Int} (h1 : P_proceedsOf b RR DD a d v) (h2 : P_proceedsOf b RR DD a d v2) : v = v2 := by obtain ⟨x, h3, h4⟩ := h1; obtain ⟨x2, h5, h6⟩ := h2; have h7 := Option.some.inj (h3.symm.trans h5); subst h7; exact h4.trans h6.symm

def C_gain (b : Nat → Nat → Int) (RR : Nat → Nat) (DD : Nat → Nat → Int) (a d : Int) : Prop := ((0 ≤ a ∧ a ≤ 2) ∧ 0 ≤ d ∧ d ≤ 4)
def P_gain (b : Nat → Nat → Int) (RR : Nat → Nat) (DD : Nat → Nat → Int) (a d : Int) (v : Int) : Prop := v = lsum (gG (DD a.toNat) d) (bMM b a.toNat (RR a.toNat) (DD a.toNat))
theorem P_gain_f (b : Nat → Nat → Int) (RR : Nat → Nat) (DD : Nat → Nat → Int) (a d : Int) {v v2 : Int} (h1 : P_gain b RR DD a d v) (h2 : P_gain b RR DD a d v2) : v = v2 := h1.trans h2.symm

def C_net (b : Nat → Nat → Int) (RR : Nat → Nat) (DD : Nat → Nat → Int) (a : Int) : Prop := (0 ≤ a ∧ a ≤ 4)
def P_net (b : Nat → Nat → Int) (RR : Nat → Nat) (DD : Nat → Nat → Int) (a : Int) (v : Int) : Prop := v = yN b RR DD a
theorem P_net_f (b : Nat → Nat → Int) (RR : Nat → Nat) (DD : Nat → Nat → Int) (a : Int) {v v2 : Int} (h1 : P_net b RR DD a v) (h2 : P_net b RR DD a v2) : v = v2 := h1.trans h2.symm

def C_carried (b : Nat → Nat → Int) (RR : Nat → Nat) (DD : Nat → Nat → Int) (a : Int) : Prop := (0 ≤ a ∧ a ≤ 4)
def P_carried (b : Nat → Nat → Int) (RR : Nat → Nat) (DD : Nat → Nat → Int) (a : Int) (v : Int) : Prop := v = yL b RR DD (a.toNat + 1)
theorem P_carried_f (b : Nat → Nat → Int) (RR : Nat → Nat) (DD : Nat → Nat → Int) (a : Int) {v v2 : Int} (h1 : P_carried b RR DD a v) (h2 : P_carried b RR DD a v2) : v = v2 := h1.trans h2.symm

def C_taxable (b : Nat → Nat → Int) (RR : Nat → Nat) (DD : Nat → Nat → Int) (a : Int) : Prop := (0 ≤ a ∧ a ≤ 4)
def P_taxable (b : Nat → Nat → Int) (RR : Nat → Nat) (DD : Nat → Nat → Int) (a : Int) (v : Int) : Prop := v = max 0 (yA b RR DD a.toNat - yL b RR DD a.toNat)
theorem P_taxable_f (b : Nat → Nat → Int) (RR : Nat → Nat) (DD : Nat → Nat → Int) (a : Int) {v v2 : Int} (h1 : P_taxable b RR DD a v) (h2 : P_taxable b RR DD a v2) : v = v2 := h1.trans h2.symm

theorem w_holding (l : Launch) (cg : Nat → ClassId) (D : va_G) (ad : Nat → Nat) (st : Nat → Nat → Int) (hst : l.stackTraces = false) (b : Nat → Nat → Int) (hX : XI st b) (a d : Int) (ha : -2147483648 ≤ a ∧ a < 2147483648) (hd : -2147483648 ≤ d ∧ d < 2147483648) : WI l yL_holding wsL_holding ({ frames := 9, cells := 1, slots := 6, locals := 180 }) D vwCl (TY cg) 74 (celW cg) ad st [.ref (ad 0), .int (iI a), .int (iI d), .ref (ad 73)] (fun z st1 => ∃ v b1, POR (C_holding b (xR st) (xD st) a d) (P_holding b (xR st) (xD st) a d) b z v b1 ∧ XI st1 b1 ∧ (z = 0 → st1 73 0 = wr v)) := by
  by_cases hA : 0 ≤ a ∧ a ≤ 2
  · by_cases hD : 0 ≤ d ∧ d ≤ 1824
    · rcases (show a = 0 ∨ a = 1 ∨ a = 2 by omega) with h | h | h <;> subst h
      · exact (c_L_holding_okw l cg D ad st 0 d _ (c_X5_holding_0 l cg D ad st b hX d (by omega))).mono (rd_fin hX ⟨hA, hD⟩ (fun v hv => hv))
      · exact (c_L_holding_okw l cg D ad st 1 d _ (c_X5_holding_1 l cg D ad st b hX d (by omega))).mono (rd_fin hX ⟨hA, hD⟩ (fun v hv => hv))
      · exact (c_L_holding_okw l cg D ad st 2 d _ (c_X5_holding_2 l cg D ad st b hX d (by omega))).mono (rd_fin hX ⟨hA, hD⟩ (fun v hv => hv))
    · rcases (show a = 0 ∨ a = 1 ∨ a = 2 by omega) with h | h | h <;> subst h
      · exact (c_L_holding_no1 l cg D ad st 0 d (c_X5_holding_noD_0 l cg D ad st hst d hd (by omega))).mono (no_fin hX (fun h => hD h.2))
      · exact (c_L_holding_no1 l cg D ad st 1 d (c_X5_holding_noD_1 l cg D ad st hst d hd (by omega))).mono (no_fin hX (fun h => hD h.2))
      · exact (c_L_holding_no1 l cg D ad st 2 d (c_X5_holding_noD_2 l cg D ad st hst d hd (by omega))).mono (no_fin hX (fun h => hD h.2))
  · exact (c_L_holding_no1 l cg D ad st a d (c_X5_holding_noA l cg D ad st hst a d ha (by omega))).mono (no_fin hX (fun h => hA h.1))
theorem m_holding (l : Launch) (cg : Nat → ClassId) (D : va_G) (ad : Nat → Nat) (st : Nat → Nat → Int) (RR : Nat → Nat) (DD : Nat → Nat → Int) (hB : BV st) (hI : bRows st RR DD) (a d : Int) (ha : -2147483648 ≤ a ∧ a < 2147483648) (hd : -2147483648 ≤ d ∧ d < 2147483648) : MI l yX6_holding wsX6_holding ({ frames := 3, cells := 0, slots := 0, locals := 74 }) D vwCl (TY cg) 26 (celM cg) ad st [.ref (ad 0), .int (iI a), .int (iI d)] (fun z st1 => ∃ b1, POR (C_holding st RR DD a d) (P_holding st RR DD a d) st (st1 0 29) z b1 ∧ BEq b1 st1) := by
  by_cases hC : (0 ≤ a ∧ a ≤ 2) ∧ 0 ≤ d ∧ d ≤ 1824
  · obtain ⟨v, rfl⟩ : ∃ v : Nat, a = v := ⟨a.toNat, by omega⟩
    exact (c_X6_holding l cg D ad st v d hB (by omega) (by omega)).mono (mrd_fin hC (fun v hv => by unfold P_holding; rw [Int.toNat_natCast]; exact hv))
  · exact (c_X6_holding_no l cg D ad st a d hB ha hd hC).mono (mno_fin hC)
theorem w_poolUnits (l : Launch) (cg : Nat → ClassId) (D : va_G) (ad : Nat → Nat) (st : Nat → Nat → Int) (hst : l.stackTraces = false) (b : Nat → Nat → Int) (hX : XI st b) (a d : Int) (ha : -2147483648 ≤ a ∧ a < 2147483648) (hd : -2147483648 ≤ d ∧ d < 2147483648) : WI l yL_poolUnits wsL_poolUnits ({ frames := 9, cells := 1, slots := 6, locals := 180 }) D vwCl (TY cg) 74 (celW cg) ad st [.ref (ad 0), .int (iI a), .int (iI d), .ref (ad 73)] (fun z st1 => ∃ v b1, POR (C_poolUnits b (xR st) (xD st) a d) (P_poolUnits b (xR st) (xD st) a d) b z v b1 ∧ XI st1 b1 ∧ (z = 0 → st1 73 0 = wr v)) := by
  by_cases hA : 0 ≤ a ∧ a ≤ 2
  · by_cases hD : 0 ≤ d ∧ d ≤ 1824
    · rcases (show a = 0 ∨ a = 1 ∨ a = 2 by omega) with h | h | h <;> subst h
      · exact (c_L_poolUnits_okw l cg D ad st 0 d _ (c_X5_poolUnits_0 l cg D ad st b hX d (by omega))).mono (rd_fin hX ⟨hA, hD⟩ (fun v hv => hv))
      · exact (c_L_poolUnits_okw l cg D ad st 1 d _ (c_X5_poolUnits_1 l cg D ad st b hX d (by omega))).mono (rd_fin hX ⟨hA, hD⟩ (fun v hv => hv))
      · exact (c_L_poolUnits_okw l cg D ad st 2 d _ (c_X5_poolUnits_2 l cg D ad st b hX d (by omega))).mono (rd_fin hX ⟨hA, hD⟩ (fun v hv => hv))
    · rcases (show a = 0 ∨ a = 1 ∨ a = 2 by omega) with h | h | h <;> subst h
      · exact (c_L_poolUnits_no1 l cg D ad st 0 d (c_X5_poolUnits_noD_0 l cg D ad st hst d hd (by omega))).mono (no_fin hX (fun h => hD h.2))
      · exact (c_L_poolUnits_no1 l cg D ad st 1 d (c_X5_poolUnits_noD_1 l cg D ad st hst d hd (by omega))).mono (no_fin hX (fun h => hD h.2))
      · exact (c_L_poolUnits_no1 l cg D ad st 2 d (c_X5_poolUnits_noD_2 l cg D ad st hst d hd (by omega))).mono (no_fin hX (fun h => hD h.2))
  · exact (c_L_poolUnits_no1 l cg D ad st a d (c_X5_poolUnits_noA l cg D ad st hst a d ha (by omega))).mono (no_fin hX (fun h => hA h.1))
theorem m_poolUnits (l : Launch) (cg : Nat → ClassId) (D : va_G) (ad : Nat → Nat) (st : Nat → Nat → Int) (RR : Nat → Nat) (DD : Nat → Nat → Int) (hB : BV st) (hI : bRows st RR DD) (a d : Int) (ha : -2147483648 ≤ a ∧ a < 2147483648) (hd : -2147483648 ≤ d ∧ d < 2147483648) : MI l yX6_poolUnits wsX6_poolUnits ({ frames := 3, cells := 0, slots := 0, locals := 79 }) D vwCl (TY cg) 26 (celM cg) ad st [.ref (ad 0), .int (iI a), .int (iI d)] (fun z st1 => ∃ b1, POR (C_poolUnits st RR DD a d) (P_poolUnits st RR DD a d) st (st1 0 29) z b1 ∧ BEq b1 st1) := by
  by_cases hC : (0 ≤ a ∧ a ≤ 2) ∧ 0 ≤ d ∧ d ≤ 1824
  · obtain ⟨v, rfl⟩ : ∃ v : Nat, a = v := ⟨a.toNat, by omega⟩
    exact (c_X6_poolUnits l cg D ad st v hB (by omega) (RR v) (DD v) (hI v (by omega)) d (by omega)).mono (mrd_fin hC (fun v hv => by unfold P_poolUnits; rw [Int.toNat_natCast]; exact hv))
  · exact (c_X6_poolUnits_noq l cg D ad st a d hB ha hd hC).mono (mno_fin hC)
theorem w_poolCost (l : Launch) (cg : Nat → ClassId) (D : va_G) (ad : Nat → Nat) (st : Nat → Nat → Int) (hst : l.stackTraces = false) (b : Nat → Nat → Int) (hX : XI st b) (a d : Int) (ha : -2147483648 ≤ a ∧ a < 2147483648) (hd : -2147483648 ≤ d ∧ d < 2147483648) : WI l yL_poolCost wsL_poolCost ({ frames := 9, cells := 1, slots := 6, locals := 180 }) D vwCl (TY cg) 74 (celW cg) ad st [.ref (ad 0), .int (iI a), .int (iI d), .ref (ad 73)] (fun z st1 => ∃ v b1, POR (C_poolCost b (xR st) (xD st) a d) (P_poolCost b (xR st) (xD st) a d) b z v b1 ∧ XI st1 b1 ∧ (z = 0 → st1 73 0 = wr v)) := by
  by_cases hA : 0 ≤ a ∧ a ≤ 2
  · by_cases hD : 0 ≤ d ∧ d ≤ 1824
    · rcases (show a = 0 ∨ a = 1 ∨ a = 2 by omega) with h | h | h <;> subst h
      · exact (c_L_poolCost_okw l cg D ad st 0 d _ (c_X5_poolCost_0 l cg D ad st b hX d (by omega))).mono (rd_fin hX ⟨hA, hD⟩ (fun v hv => hv))
      · exact (c_L_poolCost_okw l cg D ad st 1 d _ (c_X5_poolCost_1 l cg D ad st b hX d (by omega))).mono (rd_fin hX ⟨hA, hD⟩ (fun v hv => hv))
      · exact (c_L_poolCost_okw l cg D ad st 2 d _ (c_X5_poolCost_2 l cg D ad st b hX d (by omega))).mono (rd_fin hX ⟨hA, hD⟩ (fun v hv => hv))
    · rcases (show a = 0 ∨ a = 1 ∨ a = 2 by omega) with h | h | h <;> subst h
      · exact (c_L_poolCost_no1 l cg D ad st 0 d (c_X5_poolCost_noD_0 l cg D ad st hst d hd (by omega))).mono (no_fin hX (fun h => hD h.2))
      · exact (c_L_poolCost_no1 l cg D ad st 1 d (c_X5_poolCost_noD_1 l cg D ad st hst d hd (by omega))).mono (no_fin hX (fun h => hD h.2))
      · exact (c_L_poolCost_no1 l cg D ad st 2 d (c_X5_poolCost_noD_2 l cg D ad st hst d hd (by omega))).mono (no_fin hX (fun h => hD h.2))
  · exact (c_L_poolCost_no1 l cg D ad st a d (c_X5_poolCost_noA l cg D ad st hst a d ha (by omega))).mono (no_fin hX (fun h => hA h.1))
theorem m_poolCost (l : Launch) (cg : Nat → ClassId) (D : va_G) (ad : Nat → Nat) (st : Nat → Nat → Int) (RR : Nat → Nat) (DD : Nat → Nat → Int) (hB : BV st) (hI : bRows st RR DD) (a d : Int) (ha : -2147483648 ≤ a ∧ a < 2147483648) (hd : -2147483648 ≤ d ∧ d < 2147483648) : MI l yX6_poolCost wsX6_poolCost ({ frames := 3, cells := 0, slots := 0, locals := 79 }) D vwCl (TY cg) 26 (celM cg) ad st [.ref (ad 0), .int (iI a), .int (iI d)] (fun z st1 => ∃ b1, POR (C_poolCost st RR DD a d) (P_poolCost st RR DD a d) st (st1 0 29) z b1 ∧ BEq b1 st1) := by
  by_cases hC : (0 ≤ a ∧ a ≤ 2) ∧ 0 ≤ d ∧ d ≤ 1824
  · obtain ⟨v, rfl⟩ : ∃ v : Nat, a = v := ⟨a.toNat, by omega⟩
    exact (c_X6_poolCost l cg D ad st v hB (by omega) (RR v) (DD v) (hI v (by omega)) d (by omega)).mono (mrd_fin hC (fun v hv => by unfold P_poolCost; rw [Int.toNat_natCast]; exact hv))
  · exact (c_X6_poolCost_noq l cg D ad st a d hB ha hd hC).mono (mno_fin hC)
theorem w_costIn (l : Launch) (cg : Nat → ClassId) (D : va_G) (ad : Nat → Nat) (st : Nat → Nat → Int) (hst : l.stackTraces = false) (b : Nat → Nat → Int) (hX : XI st b) (a : Int) (ha : -2147483648 ≤ a ∧ a < 2147483648) : WI l yL_costIn wsL_costIn ({ frames := 9, cells := 1, slots := 6, locals := 180 }) D vwCl (TY cg) 74 (celW cg) ad st [.ref (ad 0), .int (iI a), .ref (ad 73)] (fun z st1 => ∃ v b1, POR (C_costIn b (xR st) (xD st) a) (P_costIn b (xR st) (xD st) a) b z v b1 ∧ XI st1 b1 ∧ (z = 0 → st1 73 0 = wr v)) := by
  by_cases hA : 0 ≤ a ∧ a ≤ 2
  · rcases (show a = 0 ∨ a = 1 ∨ a = 2 by omega) with h | h | h <;> subst h
    · exact (c_L_costIn_okw l cg D ad st 0 _ (c_X5_costIn_0 l cg D ad st b hX)).mono (rd_fin hX hA (fun v hv => hv))
    · exact (c_L_costIn_okw l cg D ad st 1 _ (c_X5_costIn_1 l cg D ad st b hX)).mono (rd_fin hX hA (fun v hv => hv))
    · exact (c_L_costIn_okw l cg D ad st 2 _ (c_X5_costIn_2 l cg D ad st b hX)).mono (rd_fin hX hA (fun v hv => hv))
  · exact (c_L_costIn_no1 l cg D ad st a (c_X5_costIn_noA l cg D ad st hst a ha (by omega))).mono (no_fin hX (fun h => hA h))
theorem m_costIn (l : Launch) (cg : Nat → ClassId) (D : va_G) (ad : Nat → Nat) (st : Nat → Nat → Int) (RR : Nat → Nat) (DD : Nat → Nat → Int) (hB : BV st) (hI : bRows st RR DD) (a : Int) (ha : -2147483648 ≤ a ∧ a < 2147483648) : MI l yX6_costIn wsX6_costIn ({ frames := 2, cells := 0, slots := 0, locals := 50 }) D vwCl (TY cg) 26 (celM cg) ad st [.ref (ad 0), .int (iI a)] (fun z st1 => ∃ b1, POR (C_costIn st RR DD a) (P_costIn st RR DD a) st (st1 0 29) z b1 ∧ BEq b1 st1) := by
  by_cases hA : 0 ≤ a ∧ a ≤ 2
  · obtain ⟨v, rfl⟩ : ∃ v : Nat, a = v := ⟨a.toNat, by omega⟩
    exact (c_X6_costIn l cg D ad st v hB (by omega)).mono (mrd_fin hA (fun v hv => by unfold P_costIn; rw [Int.toNat_natCast]; exact hv))
  · exact (c_X6_costIn_no l cg D ad st a hB ha hA).mono (mno_fin hA)
theorem w_costMatched (l : Launch) (cg : Nat → ClassId) (D : va_G) (ad : Nat → Nat) (st : Nat → Nat → Int) (hst : l.stackTraces = false) (b : Nat → Nat → Int) (hX : XI st b) (a : Int) (ha : -2147483648 ≤ a ∧ a < 2147483648) : WI l yL_costMatched wsL_costMatched ({ frames := 9, cells := 1, slots := 6, locals := 180 }) D vwCl (TY cg) 74 (celW cg) ad st [.ref (ad 0), .int (iI a), .ref (ad 73)] (fun z st1 => ∃ v b1, POR (C_costMatched b (xR st) (xD st) a) (P_costMatched b (xR st) (xD st) a) b z v b1 ∧ XI st1 b1 ∧ (z = 0 → st1 73 0 = wr v)) := by
  by_cases hA : 0 ≤ a ∧ a ≤ 2
  · rcases (show a = 0 ∨ a = 1 ∨ a = 2 by omega) with h | h | h <;> subst h
    · exact (c_L_costMatched_okw l cg D ad st 0 _ (c_X5_costMatched_0 l cg D ad st b hX)).mono (rd_fin hX hA (fun v hv => hv))
    · exact (c_L_costMatched_okw l cg D ad st 1 _ (c_X5_costMatched_1 l cg D ad st b hX)).mono (rd_fin hX hA (fun v hv => hv))
    · exact (c_L_costMatched_okw l cg D ad st 2 _ (c_X5_costMatched_2 l cg D ad st b hX)).mono (rd_fin hX hA (fun v hv => hv))
  · exact (c_L_costMatched_no1 l cg D ad st a (c_X5_costMatched_noA l cg D ad st hst a ha (by omega))).mono (no_fin hX (fun h => hA h))
theorem m_costMatched (l : Launch) (cg : Nat → ClassId) (D : va_G) (ad : Nat → Nat) (st : Nat → Nat → Int) (RR : Nat → Nat) (DD : Nat → Nat → Int) (hB : BV st) (hI : bRows st RR DD) (a : Int) (ha : -2147483648 ≤ a ∧ a < 2147483648) : MI l yX6_costMatched wsX6_costMatched ({ frames := 3, cells := 0, slots := 0, locals := 79 }) D vwCl (TY cg) 26 (celM cg) ad st [.ref (ad 0), .int (iI a)] (fun z st1 => ∃ b1, POR (C_costMatched st RR DD a) (P_costMatched st RR DD a) st (st1 0 29) z b1 ∧ BEq b1 st1) := by
  by_cases hA : 0 ≤ a ∧ a ≤ 2
  · obtain ⟨v, rfl⟩ : ∃ v : Nat, a = v := ⟨a.toNat, by omega⟩
    exact (c_X6_costMatched l cg D ad st v hB (by omega) (RR v) (DD v) (hI v (by omega))).mono (mrd_fin hA (fun v hv => by unfold P_costMatched; rw [Int.toNat_natCast]; exact hv))
  · exact (c_X6_costMatched_noq l cg D ad st a hB ha hA).mono (mno_fin hA)
theorem w_matches (l : Launch) (cg : Nat → ClassId) (D : va_G) (ad : Nat → Nat) (st : Nat → Nat → Int) (hst : l.stackTraces = false) (b : Nat → Nat → Int) (hX : XI st b) (a : Int) (ha : -2147483648 ≤ a ∧ a < 2147483648) : WI l yL_matches wsL_matches ({ frames := 9, cells := 1, slots := 6, locals := 180 }) D vwCl (TY cg) 74 (celW cg) ad st [.ref (ad 0), .int (iI a), .ref (ad 73)] (fun z st1 => ∃ v b1, POR (C_matches b (xR st) (xD st) a) (P_matches b (xR st) (xD st) a) b z v b1 ∧ XI st1 b1 ∧ (z = 0 → st1 73 0 = wr v)) := by
  by_cases hA : 0 ≤ a ∧ a ≤ 2
  · rcases (show a = 0 ∨ a = 1 ∨ a = 2 by omega) with h | h | h <;> subst h
    · exact (c_L_matches_okw l cg D ad st 0 _ (c_X5_matches_0 l cg D ad st b hX)).mono (rd_fin hX hA (fun v hv => hv))
    · exact (c_L_matches_okw l cg D ad st 1 _ (c_X5_matches_1 l cg D ad st b hX)).mono (rd_fin hX hA (fun v hv => hv))
    · exact (c_L_matches_okw l cg D ad st 2 _ (c_X5_matches_2 l cg D ad st b hX)).mono (rd_fin hX hA (fun v hv => hv))
  · exact (c_L_matches_no1 l cg D ad st a (c_X5_matches_noA l cg D ad st hst a ha (by omega))).mono (no_fin hX (fun h => hA h))
theorem m_matches (l : Launch) (cg : Nat → ClassId) (D : va_G) (ad : Nat → Nat) (st : Nat → Nat → Int) (RR : Nat → Nat) (DD : Nat → Nat → Int) (hB : BV st) (hI : bRows st RR DD) (a : Int) (ha : -2147483648 ≤ a ∧ a < 2147483648) : MI l yX6_matches wsX6_matches ({ frames := 3, cells := 0, slots := 0, locals := 79 }) D vwCl (TY cg) 26 (celM cg) ad st [.ref (ad 0), .int (iI a)] (fun z st1 => ∃ b1, POR (C_matches st RR DD a) (P_matches st RR DD a) st (st1 0 29) z b1 ∧ BEq b1 st1) := by
  by_cases hA : 0 ≤ a ∧ a ≤ 2
  · obtain ⟨v, rfl⟩ : ∃ v : Nat, a = v := ⟨a.toNat, by omega⟩
    exact (c_X6_matches l cg D ad st v hB (by omega) (RR v) (DD v) (hI v (by omega))).mono (mrd_fin hA (fun v hv => by unfold P_matches; rw [Int.toNat_natCast]; exact hv))
  · exact (c_X6_matches_noq l cg D ad st a hB ha hA).mono (mno_fin hA)
theorem w_kindOf (l : Launch) (cg : Nat → ClassId) (D : va_G) (ad : Nat → Nat) (st : Nat → Nat → Int) (hst : l.stackTraces = false) (b : Nat → Nat → Int) (hX : XI st b) (a d : Int) (ha : -2147483648 ≤ a ∧ a < 2147483648) (hd : -2147483648 ≤ d ∧ d < 2147483648) : WI l yL_kindOf wsL_kindOf ({ frames := 9, cells := 1, slots := 6, locals := 180 }) D vwCl (TY cg) 74 (celW cg) ad st [.ref (ad 0), .int (iI a), .int (iI d), .ref (ad 73)] (fun z st1 => ∃ v b1, POR (C_kindOf b (xR st) (xD st) a d) (P_kindOf b (xR st) (xD st) a d) b z v b1 ∧ XI st1 b1 ∧ (z = 0 → st1 73 0 = wr v)) := by
  by_cases hA : 0 ≤ a ∧ a ≤ 2
  · by_cases hD : 0 ≤ d ∧ d < (bAA b a.toNat (xR st a.toNat) (xD st a.toNat)).length
    · rcases (show a = 0 ∨ a = 1 ∨ a = 2 by omega) with h | h | h <;> subst h
      · exact (c_L_kindOf_okw l cg D ad st 0 d _ (c_X5_kindOf_0 l cg D ad st b hX d hD)).mono (rd_fin hX ⟨hA, hD⟩ (fun v hv => hv))
      · exact (c_L_kindOf_okw l cg D ad st 1 d _ (c_X5_kindOf_1 l cg D ad st b hX d hD)).mono (rd_fin hX ⟨hA, hD⟩ (fun v hv => hv))
      · exact (c_L_kindOf_okw l cg D ad st 2 d _ (c_X5_kindOf_2 l cg D ad st b hX d hD)).mono (rd_fin hX ⟨hA, hD⟩ (fun v hv => hv))
    · rcases (show a = 0 ∨ a = 1 ∨ a = 2 by omega) with h | h | h <;> subst h
      · exact (c_L_kindOf_no1 l cg D ad st 0 d (c_X5_kindOf_noM_0 l cg D ad st hst b hX d hd hD)).mono (no_fin hX (fun h => hD h.2))
      · exact (c_L_kindOf_no1 l cg D ad st 1 d (c_X5_kindOf_noM_1 l cg D ad st hst b hX d hd hD)).mono (no_fin hX (fun h => hD h.2))
      · exact (c_L_kindOf_no1 l cg D ad st 2 d (c_X5_kindOf_noM_2 l cg D ad st hst b hX d hd hD)).mono (no_fin hX (fun h => hD h.2))
  · exact (c_L_kindOf_no1 l cg D ad st a d (c_X5_kindOf_noA l cg D ad st hst a d ha (by omega))).mono (no_fin hX (fun h => hA h.1))
theorem m_kindOf (l : Launch) (cg : Nat → ClassId) (D : va_G) (ad : Nat → Nat) (st : Nat → Nat → Int) (RR : Nat → Nat) (DD : Nat → Nat → Int) (hB : BV st) (hI : bRows st RR DD) (a d : Int) (ha : -2147483648 ≤ a ∧ a < 2147483648) (hd : -2147483648 ≤ d ∧ d < 2147483648) : MI l yX6_kindOf wsX6_kindOf ({ frames := 4, cells := 0, slots := 0, locals := 105 }) D vwCl (TY cg) 26 (celM cg) ad st [.ref (ad 0), .int (iI a), .int (iI d)] (fun z st1 => ∃ b1, POR (C_kindOf st RR DD a d) (P_kindOf st RR DD a d) st (st1 0 29) z b1 ∧ BEq b1 st1) := by
  by_cases hA : 0 ≤ a ∧ a ≤ 2
  · obtain ⟨v, rfl⟩ : ∃ v : Nat, a = v := ⟨a.toNat, by omega⟩
    refine (c_X6_kindOf l cg D ad st v hB (by omega) (RR v) (DD v) (hI v (by omega)) d hd).mono (fun z u h => ?_)
    obtain ⟨h1, ⟨h2, h3⟩ | ⟨x, h2, h3, h4, h5⟩⟩ := h
    · exact ⟨st, Or.inl ⟨fun h => h3 (by have h9 := h.2; rw [Int.toNat_natCast] at h9; exact h9), h2, rfl⟩, h1.be⟩
    · exact ⟨st, Or.inr ⟨⟨hA, by rw [Int.toNat_natCast]; have h6 := (List.getElem?_eq_some_iff.mp h3).1; omega⟩, h4, ⟨x, by rw [Int.toNat_natCast]; exact h3, by exact h5⟩, rfl⟩, h1.be⟩
  · exact (c_X6_kindOf_noq l cg D ad st a d hB ha hA).mono (mno_fin (fun h => hA h.1))
theorem w_saleDay (l : Launch) (cg : Nat → ClassId) (D : va_G) (ad : Nat → Nat) (st : Nat → Nat → Int) (hst : l.stackTraces = false) (b : Nat → Nat → Int) (hX : XI st b) (a d : Int) (ha : -2147483648 ≤ a ∧ a < 2147483648) (hd : -2147483648 ≤ d ∧ d < 2147483648) : WI l yL_saleDay wsL_saleDay ({ frames := 9, cells := 1, slots := 6, locals := 180 }) D vwCl (TY cg) 74 (celW cg) ad st [.ref (ad 0), .int (iI a), .int (iI d), .ref (ad 73)] (fun z st1 => ∃ v b1, POR (C_saleDay b (xR st) (xD st) a d) (P_saleDay b (xR st) (xD st) a d) b z v b1 ∧ XI st1 b1 ∧ (z = 0 → st1 73 0 = wr v)) := by
  by_cases hA : 0 ≤ a ∧ a ≤ 2
  · by_cases hD : 0 ≤ d ∧ d < (bAA b a.toNat (xR st a.toNat) (xD st a.toNat)).length
    · rcases (show a = 0 ∨ a = 1 ∨ a = 2 by omega) with h | h | h <;> subst h
      · exact (c_L_saleDay_okw l cg D ad st 0 d _ (c_X5_saleDay_0 l cg D ad st b hX d hD)).mono (rd_fin hX ⟨hA, hD⟩ (fun v hv => hv))
      · exact (c_L_saleDay_okw l cg D ad st 1 d _ (c_X5_saleDay_1 l cg D ad st b hX d hD)).mono (rd_fin hX ⟨hA, hD⟩ (fun v hv => hv))
      · exact (c_L_saleDay_okw l cg D ad st 2 d _ (c_X5_saleDay_2 l cg D ad st b hX d hD)).mono (rd_fin hX ⟨hA, hD⟩ (fun v hv => hv))
    · rcases (show a = 0 ∨ a = 1 ∨ a = 2 by omega) with h | h | h <;> subst h
      · exact (c_L_saleDay_no1 l cg D ad st 0 d (c_X5_saleDay_noM_0 l cg D ad st hst b hX d hd hD)).mono (no_fin hX (fun h => hD h.2))
      · exact (c_L_saleDay_no1 l cg D ad st 1 d (c_X5_saleDay_noM_1 l cg D ad st hst b hX d hd hD)).mono (no_fin hX (fun h => hD h.2))
      · exact (c_L_saleDay_no1 l cg D ad st 2 d (c_X5_saleDay_noM_2 l cg D ad st hst b hX d hd hD)).mono (no_fin hX (fun h => hD h.2))
  · exact (c_L_saleDay_no1 l cg D ad st a d (c_X5_saleDay_noA l cg D ad st hst a d ha (by omega))).mono (no_fin hX (fun h => hA h.1))
theorem m_saleDay (l : Launch) (cg : Nat → ClassId) (D : va_G) (ad : Nat → Nat) (st : Nat → Nat → Int) (RR : Nat → Nat) (DD : Nat → Nat → Int) (hB : BV st) (hI : bRows st RR DD) (a d : Int) (ha : -2147483648 ≤ a ∧ a < 2147483648) (hd : -2147483648 ≤ d ∧ d < 2147483648) : MI l yX6_saleDay wsX6_saleDay ({ frames := 4, cells := 0, slots := 0, locals := 105 }) D vwCl (TY cg) 26 (celM cg) ad st [.ref (ad 0), .int (iI a), .int (iI d)] (fun z st1 => ∃ b1, POR (C_saleDay st RR DD a d) (P_saleDay st RR DD a d) st (st1 0 29) z b1 ∧ BEq b1 st1) := by
  by_cases hA : 0 ≤ a ∧ a ≤ 2
  · obtain ⟨v, rfl⟩ : ∃ v : Nat, a = v := ⟨a.toNat, by omega⟩
    refine (c_X6_saleDay l cg D ad st v hB (by omega) (RR v) (DD v) (hI v (by omega)) d hd).mono (fun z u h => ?_)
    obtain ⟨h1, ⟨h2, h3⟩ | ⟨x, h2, h3, h4, h5⟩⟩ := h
    · exact ⟨st, Or.inl ⟨fun h => h3 (by have h9 := h.2; rw [Int.toNat_natCast] at h9; exact h9), h2, rfl⟩, h1.be⟩
    · exact ⟨st, Or.inr ⟨⟨hA, by rw [Int.toNat_natCast]; have h6 := (List.getElem?_eq_some_iff.mp h3).1; omega⟩, h4, ⟨x, by rw [Int.toNat_natCast]; exact h3, by rw [Int.toNat_natCast]; exact h5⟩, rfl⟩, h1.be⟩
  · exact (c_X6_saleDay_noq l cg D ad st a d hB ha hA).mono (mno_fin (fun h => hA h.1))
theorem w_buyDay (l : Launch) (cg : Nat → ClassId) (D : va_G) (ad : Nat → Nat) (st : Nat → Nat → Int) (hst : l.stackTraces = false) (b : Nat → Nat → Int) (hX : XI st b) (a d : Int) (ha : -2147483648 ≤ a ∧ a < 2147483648) (hd : -2147483648 ≤ d ∧ d < 2147483648) : WI l yL_buyDay wsL_buyDay ({ frames := 9, cells := 1, slots := 6, locals := 180 }) D vwCl (TY cg) 74 (celW cg) ad st [.ref (ad 0), .int (iI a), .int (iI d), .ref (ad 73)] (fun z st1 => ∃ v b1, POR (C_buyDay b (xR st) (xD st) a d) (P_buyDay b (xR st) (xD st) a d) b z v b1 ∧ XI st1 b1 ∧ (z = 0 → st1 73 0 = wr v)) := by
  by_cases hA : 0 ≤ a ∧ a ≤ 2
  · by_cases hD : 0 ≤ d ∧ d < (bAA b a.toNat (xR st a.toNat) (xD st a.toNat)).length
    · rcases (show a = 0 ∨ a = 1 ∨ a = 2 by omega) with h | h | h <;> subst h
      · exact (c_L_buyDay_okw l cg D ad st 0 d _ (c_X5_buyDay_0 l cg D ad st b hX d hD)).mono (rd_fin hX ⟨hA, hD⟩ (fun v hv => hv))
      · exact (c_L_buyDay_okw l cg D ad st 1 d _ (c_X5_buyDay_1 l cg D ad st b hX d hD)).mono (rd_fin hX ⟨hA, hD⟩ (fun v hv => hv))
      · exact (c_L_buyDay_okw l cg D ad st 2 d _ (c_X5_buyDay_2 l cg D ad st b hX d hD)).mono (rd_fin hX ⟨hA, hD⟩ (fun v hv => hv))
    · rcases (show a = 0 ∨ a = 1 ∨ a = 2 by omega) with h | h | h <;> subst h
      · exact (c_L_buyDay_no1 l cg D ad st 0 d (c_X5_buyDay_noM_0 l cg D ad st hst b hX d hd hD)).mono (no_fin hX (fun h => hD h.2))
      · exact (c_L_buyDay_no1 l cg D ad st 1 d (c_X5_buyDay_noM_1 l cg D ad st hst b hX d hd hD)).mono (no_fin hX (fun h => hD h.2))
      · exact (c_L_buyDay_no1 l cg D ad st 2 d (c_X5_buyDay_noM_2 l cg D ad st hst b hX d hd hD)).mono (no_fin hX (fun h => hD h.2))
  · exact (c_L_buyDay_no1 l cg D ad st a d (c_X5_buyDay_noA l cg D ad st hst a d ha (by omega))).mono (no_fin hX (fun h => hA h.1))
theorem m_buyDay (l : Launch) (cg : Nat → ClassId) (D : va_G) (ad : Nat → Nat) (st : Nat → Nat → Int) (RR : Nat → Nat) (DD : Nat → Nat → Int) (hB : BV st) (hI : bRows st RR DD) (a d : Int) (ha : -2147483648 ≤ a ∧ a < 2147483648) (hd : -2147483648 ≤ d ∧ d < 2147483648) : MI l yX6_buyDay wsX6_buyDay ({ frames := 4, cells := 0, slots := 0, locals := 105 }) D vwCl (TY cg) 26 (celM cg) ad st [.ref (ad 0), .int (iI a), .int (iI d)] (fun z st1 => ∃ b1, POR (C_buyDay st RR DD a d) (P_buyDay st RR DD a d) st (st1 0 29) z b1 ∧ BEq b1 st1) := by
  by_cases hA : 0 ≤ a ∧ a ≤ 2
  · obtain ⟨v, rfl⟩ : ∃ v : Nat, a = v := ⟨a.toNat, by omega⟩
    refine (c_X6_buyDay l cg D ad st v hB (by omega) (RR v) (DD v) (hI v (by omega)) d hd).mono (fun z u h => ?_)
    obtain ⟨h1, ⟨h2, h3⟩ | ⟨x, h2, h3, h4, h5⟩⟩ := h
    · exact ⟨st, Or.inl ⟨fun h => h3 (by have h9 := h.2; rw [Int.toNat_natCast] at h9; exact h9), h2, rfl⟩, h1.be⟩
    · exact ⟨st, Or.inr ⟨⟨hA, by rw [Int.toNat_natCast]; have h6 := (List.getElem?_eq_some_iff.mp h3).1; omega⟩, h4, ⟨x, by rw [Int.toNat_natCast]; exact h3, by rw [Int.toNat_natCast]; exact h5⟩, rfl⟩, h1.be⟩
  · exact (c_X6_buyDay_noq l cg D ad st a d hB ha hA).mono (mno_fin (fun h => hA h.1))
theorem w_unitsOf (l : Launch) (cg : Nat → ClassId) (D : va_G) (ad : Nat → Nat) (st : Nat → Nat → Int) (hst : l.stackTraces = false) (b : Nat → Nat → Int) (hX : XI st b) (a d : Int) (ha : -2147483648 ≤ a ∧ a < 2147483648) (hd : -2147483648 ≤ d ∧ d < 2147483648) : WI l yL_unitsOf wsL_unitsOf ({ frames := 9, cells := 1, slots := 6, locals := 180 }) D vwCl (TY cg) 74 (celW cg) ad st [.ref (ad 0), .int (iI a), .int (iI d), .ref (ad 73)] (fun z st1 => ∃ v b1, POR (C_unitsOf b (xR st) (xD st) a d) (P_unitsOf b (xR st) (xD st) a d) b z v b1 ∧ XI st1 b1 ∧ (z = 0 → st1 73 0 = wr v)) := by
  by_cases hA : 0 ≤ a ∧ a ≤ 2
  · by_cases hD : 0 ≤ d ∧ d < (bAA b a.toNat (xR st a.toNat) (xD st a.toNat)).length
    · rcases (show a = 0 ∨ a = 1 ∨ a = 2 by omega) with h | h | h <;> subst h
      · exact (c_L_unitsOf_okw l cg D ad st 0 d _ (c_X5_unitsOf_0 l cg D ad st b hX d hD)).mono (rd_fin hX ⟨hA, hD⟩ (fun v hv => hv))
      · exact (c_L_unitsOf_okw l cg D ad st 1 d _ (c_X5_unitsOf_1 l cg D ad st b hX d hD)).mono (rd_fin hX ⟨hA, hD⟩ (fun v hv => hv))
      · exact (c_L_unitsOf_okw l cg D ad st 2 d _ (c_X5_unitsOf_2 l cg D ad st b hX d hD)).mono (rd_fin hX ⟨hA, hD⟩ (fun v hv => hv))
    · rcases (show a = 0 ∨ a = 1 ∨ a = 2 by omega) with h | h | h <;> subst h
      · exact (c_L_unitsOf_no1 l cg D ad st 0 d (c_X5_unitsOf_noM_0 l cg D ad st hst b hX d hd hD)).mono (no_fin hX (fun h => hD h.2))
      · exact (c_L_unitsOf_no1 l cg D ad st 1 d (c_X5_unitsOf_noM_1 l cg D ad st hst b hX d hd hD)).mono (no_fin hX (fun h => hD h.2))
      · exact (c_L_unitsOf_no1 l cg D ad st 2 d (c_X5_unitsOf_noM_2 l cg D ad st hst b hX d hd hD)).mono (no_fin hX (fun h => hD h.2))
  · exact (c_L_unitsOf_no1 l cg D ad st a d (c_X5_unitsOf_noA l cg D ad st hst a d ha (by omega))).mono (no_fin hX (fun h => hA h.1))
theorem m_unitsOf (l : Launch) (cg : Nat → ClassId) (D : va_G) (ad : Nat → Nat) (st : Nat → Nat → Int) (RR : Nat → Nat) (DD : Nat → Nat → Int) (hB : BV st) (hI : bRows st RR DD) (a d : Int) (ha : -2147483648 ≤ a ∧ a < 2147483648) (hd : -2147483648 ≤ d ∧ d < 2147483648) : MI l yX6_unitsOf wsX6_unitsOf ({ frames := 4, cells := 0, slots := 0, locals := 105 }) D vwCl (TY cg) 26 (celM cg) ad st [.ref (ad 0), .int (iI a), .int (iI d)] (fun z st1 => ∃ b1, POR (C_unitsOf st RR DD a d) (P_unitsOf st RR DD a d) st (st1 0 29) z b1 ∧ BEq b1 st1) := by
  by_cases hA : 0 ≤ a ∧ a ≤ 2
  · obtain ⟨v, rfl⟩ : ∃ v : Nat, a = v := ⟨a.toNat, by omega⟩
    refine (c_X6_unitsOf l cg D ad st v hB (by omega) (RR v) (DD v) (hI v (by omega)) d hd).mono (fun z u h => ?_)
    obtain ⟨h1, ⟨h2, h3⟩ | ⟨x, h2, h3, h4, h5⟩⟩ := h
    · exact ⟨st, Or.inl ⟨fun h => h3 (by have h9 := h.2; rw [Int.toNat_natCast] at h9; exact h9), h2, rfl⟩, h1.be⟩
    · exact ⟨st, Or.inr ⟨⟨hA, by rw [Int.toNat_natCast]; have h6 := (List.getElem?_eq_some_iff.mp h3).1; omega⟩, h4, ⟨x, by rw [Int.toNat_natCast]; exact h3, by exact h5⟩, rfl⟩, h1.be⟩
  · exact (c_X6_unitsOf_noq l cg D ad st a d hB ha hA).mono (mno_fin (fun h => hA h.1))
theorem w_costOf (l : Launch) (cg : Nat → ClassId) (D : va_G) (ad : Nat → Nat) (st : Nat → Nat → Int) (hst : l.stackTraces = false) (b : Nat → Nat → Int) (hX : XI st b) (a d : Int) (ha : -2147483648 ≤ a ∧ a < 2147483648) (hd : -2147483648 ≤ d ∧ d < 2147483648) : WI l yL_costOf wsL_costOf ({ frames := 9, cells := 1, slots := 6, locals := 180 }) D vwCl (TY cg) 74 (celW cg) ad st [.ref (ad 0), .int (iI a), .int (iI d), .ref (ad 73)] (fun z st1 => ∃ v b1, POR (C_costOf b (xR st) (xD st) a d) (P_costOf b (xR st) (xD st) a d) b z v b1 ∧ XI st1 b1 ∧ (z = 0 → st1 73 0 = wr v)) := by
  by_cases hA : 0 ≤ a ∧ a ≤ 2
  · by_cases hD : 0 ≤ d ∧ d < (bAA b a.toNat (xR st a.toNat) (xD st a.toNat)).length
    · rcases (show a = 0 ∨ a = 1 ∨ a = 2 by omega) with h | h | h <;> subst h
      · exact (c_L_costOf_okw l cg D ad st 0 d _ (c_X5_costOf_0 l cg D ad st b hX d hD)).mono (rd_fin hX ⟨hA, hD⟩ (fun v hv => hv))
      · exact (c_L_costOf_okw l cg D ad st 1 d _ (c_X5_costOf_1 l cg D ad st b hX d hD)).mono (rd_fin hX ⟨hA, hD⟩ (fun v hv => hv))
      · exact (c_L_costOf_okw l cg D ad st 2 d _ (c_X5_costOf_2 l cg D ad st b hX d hD)).mono (rd_fin hX ⟨hA, hD⟩ (fun v hv => hv))
    · rcases (show a = 0 ∨ a = 1 ∨ a = 2 by omega) with h | h | h <;> subst h
      · exact (c_L_costOf_no1 l cg D ad st 0 d (c_X5_costOf_noM_0 l cg D ad st hst b hX d hd hD)).mono (no_fin hX (fun h => hD h.2))
      · exact (c_L_costOf_no1 l cg D ad st 1 d (c_X5_costOf_noM_1 l cg D ad st hst b hX d hd hD)).mono (no_fin hX (fun h => hD h.2))
      · exact (c_L_costOf_no1 l cg D ad st 2 d (c_X5_costOf_noM_2 l cg D ad st hst b hX d hd hD)).mono (no_fin hX (fun h => hD h.2))
  · exact (c_L_costOf_no1 l cg D ad st a d (c_X5_costOf_noA l cg D ad st hst a d ha (by omega))).mono (no_fin hX (fun h => hA h.1))
theorem m_costOf (l : Launch) (cg : Nat → ClassId) (D : va_G) (ad : Nat → Nat) (st : Nat → Nat → Int) (RR : Nat → Nat) (DD : Nat → Nat → Int) (hB : BV st) (hI : bRows st RR DD) (a d : Int) (ha : -2147483648 ≤ a ∧ a < 2147483648) (hd : -2147483648 ≤ d ∧ d < 2147483648) : MI l yX6_costOf wsX6_costOf ({ frames := 4, cells := 0, slots := 0, locals := 105 }) D vwCl (TY cg) 26 (celM cg) ad st [.ref (ad 0), .int (iI a), .int (iI d)] (fun z st1 => ∃ b1, POR (C_costOf st RR DD a d) (P_costOf st RR DD a d) st (st1 0 29) z b1 ∧ BEq b1 st1) := by
  by_cases hA : 0 ≤ a ∧ a ≤ 2
  · obtain ⟨v, rfl⟩ : ∃ v : Nat, a = v := ⟨a.toNat, by omega⟩
    refine (c_X6_costOf l cg D ad st v hB (by omega) (RR v) (DD v) (hI v (by omega)) d hd).mono (fun z u h => ?_)
    obtain ⟨h1, ⟨h2, h3⟩ | ⟨x, h2, h3, h4, h5⟩⟩ := h
    · exact ⟨st, Or.inl ⟨fun h => h3 (by have h9 := h.2; rw [Int.toNat_natCast] at h9; exact h9), h2, rfl⟩, h1.be⟩
    · exact ⟨st, Or.inr ⟨⟨hA, by rw [Int.toNat_natCast]; have h6 := (List.getElem?_eq_some_iff.mp h3).1; omega⟩, h4, ⟨x, by rw [Int.toNat_natCast]; exact h3, by exact h5⟩, rfl⟩, h1.be⟩
  · exact (c_X6_costOf_noq l cg D ad st a d hB ha hA).mono (mno_fin (fun h => hA h.1))
theorem w_proceedsOf (l : Launch) (cg : Nat → ClassId) (D : va_G) (ad : Nat → Nat) (st : Nat → Nat → Int) (hst : l.stackTraces = false) (b : Nat → Nat → Int) (hX : XI st b) (a d : Int) (ha : -2147483648 ≤ a ∧ a < 2147483648) (hd : -2147483648 ≤ d ∧ d < 2147483648) : WI l yL_proceedsOf wsL_proceedsOf ({ frames := 9, cells := 1, slots := 6, locals := 180 }) D vwCl (TY cg) 74 (celW cg) ad st [.ref (ad 0), .int (iI a), .int (iI d), .ref (ad 73)] (fun z st1 => ∃ v b1, POR (C_proceedsOf b (xR st) (xD st) a d) (P_proceedsOf b (xR st) (xD st) a d) b z v b1 ∧ XI st1 b1 ∧ (z = 0 → st1 73 0 = wr v)) := by
  by_cases hA : 0 ≤ a ∧ a ≤ 2
  · by_cases hD : 0 ≤ d ∧ d < (bAA b a.toNat (xR st a.toNat) (xD st a.toNat)).length
    · rcases (show a = 0 ∨ a = 1 ∨ a = 2 by omega) with h | h | h <;> subst h
      · exact (c_L_proceedsOf_okw l cg D ad st 0 d _ (c_X5_proceedsOf_0 l cg D ad st b hX d hD)).mono (rd_fin hX ⟨hA, hD⟩ (fun v hv => hv))
      · exact (c_L_proceedsOf_okw l cg D ad st 1 d _ (c_X5_proceedsOf_1 l cg D ad st b hX d hD)).mono (rd_fin hX ⟨hA, hD⟩ (fun v hv => hv))
      · exact (c_L_proceedsOf_okw l cg D ad st 2 d _ (c_X5_proceedsOf_2 l cg D ad st b hX d hD)).mono (rd_fin hX ⟨hA, hD⟩ (fun v hv => hv))
    · rcases (show a = 0 ∨ a = 1 ∨ a = 2 by omega) with h | h | h <;> subst h
      · exact (c_L_proceedsOf_no1 l cg D ad st 0 d (c_X5_proceedsOf_noM_0 l cg D ad st hst b hX d hd hD)).mono (no_fin hX (fun h => hD h.2))
      · exact (c_L_proceedsOf_no1 l cg D ad st 1 d (c_X5_proceedsOf_noM_1 l cg D ad st hst b hX d hd hD)).mono (no_fin hX (fun h => hD h.2))
      · exact (c_L_proceedsOf_no1 l cg D ad st 2 d (c_X5_proceedsOf_noM_2 l cg D ad st hst b hX d hd hD)).mono (no_fin hX (fun h => hD h.2))
  · exact (c_L_proceedsOf_no1 l cg D ad st a d (c_X5_proceedsOf_noA l cg D ad st hst a d ha (by omega))).mono (no_fin hX (fun h => hA h.1))
theorem m_proceedsOf (l : Launch) (cg : Nat → ClassId) (D : va_G) (ad : Nat → Nat) (st : Nat → Nat → Int) (RR : Nat → Nat) (DD : Nat → Nat → Int) (hB : BV st) (hI : bRows st RR DD) (a d : Int) (ha : -2147483648 ≤ a ∧ a < 2147483648) (hd : -2147483648 ≤ d ∧ d < 2147483648) : MI l yX6_proceedsOf wsX6_proceedsOf ({ frames := 4, cells := 0, slots := 0, locals := 105 }) D vwCl (TY cg) 26 (celM cg) ad st [.ref (ad 0), .int (iI a), .int (iI d)] (fun z st1 => ∃ b1, POR (C_proceedsOf st RR DD a d) (P_proceedsOf st RR DD a d) st (st1 0 29) z b1 ∧ BEq b1 st1) := by
  by_cases hA : 0 ≤ a ∧ a ≤ 2
  · obtain ⟨v, rfl⟩ : ∃ v : Nat, a = v := ⟨a.toNat, by omega⟩
    refine (c_X6_proceedsOf l cg D ad st v hB (by omega) (RR v) (DD v) (hI v (by omega)) d hd).mono (fun z u h => ?_)
    obtain ⟨h1, ⟨h2, h3⟩ | ⟨x, h2, h3, h4, h5⟩⟩ := h
    · exact ⟨st, Or.inl ⟨fun h => h3 (by have h9 := h.2; rw [Int.toNat_natCast] at h9; exact h9), h2, rfl⟩, h1.be⟩
    · exact ⟨st, Or.inr ⟨⟨hA, by rw [Int.toNat_natCast]; have h6 := (List.getElem?_eq_some_iff.mp h3).1; omega⟩, h4, ⟨x, by rw [Int.toNat_natCast]; exact h3, by exact h5⟩, rfl⟩, h1.be⟩
  · exact (c_X6_proceedsOf_noq l cg D ad st a d hB ha hA).mono (mno_fin (fun h => hA h.1))
theorem w_gain (l : Launch) (cg : Nat → ClassId) (D : va_G) (ad : Nat → Nat) (st : Nat → Nat → Int) (hst : l.stackTraces = false) (b : Nat → Nat → Int) (hX : XI st b) (a d : Int) (ha : -2147483648 ≤ a ∧ a < 2147483648) (hd : -2147483648 ≤ d ∧ d < 2147483648) : WI l yL_gain wsL_gain ({ frames := 9, cells := 1, slots := 6, locals := 180 }) D vwCl (TY cg) 74 (celW cg) ad st [.ref (ad 0), .int (iI a), .int (iI d), .ref (ad 73)] (fun z st1 => ∃ v b1, POR (C_gain b (xR st) (xD st) a d) (P_gain b (xR st) (xD st) a d) b z v b1 ∧ XI st1 b1 ∧ (z = 0 → st1 73 0 = wr v)) := by
  by_cases hA : 0 ≤ a ∧ a ≤ 2
  · by_cases hD : 0 ≤ d ∧ d ≤ 4
    · rcases (show a = 0 ∨ a = 1 ∨ a = 2 by omega) with h | h | h <;> subst h
      · exact (c_L_gain_okw l cg D ad st 0 d _ (c_X5_gain_0 l cg D ad st b hX d (by omega))).mono (rd_fin hX ⟨hA, hD⟩ (fun v hv => hv))
      · exact (c_L_gain_okw l cg D ad st 1 d _ (c_X5_gain_1 l cg D ad st b hX d (by omega))).mono (rd_fin hX ⟨hA, hD⟩ (fun v hv => hv))
      · exact (c_L_gain_okw l cg D ad st 2 d _ (c_X5_gain_2 l cg D ad st b hX d (by omega))).mono (rd_fin hX ⟨hA, hD⟩ (fun v hv => hv))
    · rcases (show a = 0 ∨ a = 1 ∨ a = 2 by omega) with h | h | h <;> subst h
      · exact (c_L_gain_no1 l cg D ad st 0 d (c_X5_gain_noY_0 l cg D ad st hst d hd (by omega))).mono (no_fin hX (fun h => hD h.2))
      · exact (c_L_gain_no1 l cg D ad st 1 d (c_X5_gain_noY_1 l cg D ad st hst d hd (by omega))).mono (no_fin hX (fun h => hD h.2))
      · exact (c_L_gain_no1 l cg D ad st 2 d (c_X5_gain_noY_2 l cg D ad st hst d hd (by omega))).mono (no_fin hX (fun h => hD h.2))
  · exact (c_L_gain_no1 l cg D ad st a d (c_X5_gain_noA l cg D ad st hst a d ha (by omega))).mono (no_fin hX (fun h => hA h.1))
theorem m_gain (l : Launch) (cg : Nat → ClassId) (D : va_G) (ad : Nat → Nat) (st : Nat → Nat → Int) (RR : Nat → Nat) (DD : Nat → Nat → Int) (hB : BV st) (hI : bRows st RR DD) (a d : Int) (ha : -2147483648 ≤ a ∧ a < 2147483648) (hd : -2147483648 ≤ d ∧ d < 2147483648) : MI l yX6_gain wsX6_gain ({ frames := 4, cells := 0, slots := 0, locals := 106 }) D vwCl (TY cg) 26 (celM cg) ad st [.ref (ad 0), .int (iI a), .int (iI d)] (fun z st1 => ∃ b1, POR (C_gain st RR DD a d) (P_gain st RR DD a d) st (st1 0 29) z b1 ∧ BEq b1 st1) := by
  by_cases hC : (0 ≤ a ∧ a ≤ 2) ∧ 0 ≤ d ∧ d ≤ 4
  · obtain ⟨v, rfl⟩ : ∃ v : Nat, a = v := ⟨a.toNat, by omega⟩
    exact (c_X6_gain l cg D ad st v hB (by omega) (RR v) (DD v) (hI v (by omega)) d (by omega)).mono (mrd_fin hC (fun v hv => by unfold P_gain; rw [Int.toNat_natCast]; exact hv))
  · exact (c_X6_gain_no l cg D ad st a d hB ha hd hC).mono (mno_fin hC)
theorem w_net (l : Launch) (cg : Nat → ClassId) (D : va_G) (ad : Nat → Nat) (st : Nat → Nat → Int) (hst : l.stackTraces = false) (b : Nat → Nat → Int) (hX : XI st b) (a : Int) (ha : -2147483648 ≤ a ∧ a < 2147483648) : WI l yL_net wsL_net ({ frames := 9, cells := 1, slots := 6, locals := 180 }) D vwCl (TY cg) 74 (celW cg) ad st [.ref (ad 0), .int (iI a), .ref (ad 73)] (fun z st1 => ∃ v b1, POR (C_net b (xR st) (xD st) a) (P_net b (xR st) (xD st) a) b z v b1 ∧ XI st1 b1 ∧ (z = 0 → st1 73 0 = wr v)) := by
  by_cases hy : 0 ≤ a ∧ a ≤ 4
  · exact (c_L_net_okw l cg D ad st a _ (c_X5_net l cg D ad st b hX a (by omega))).mono (rd_fin hX hy (fun v hv => hv))
  · exact (c_L_net_no1 l cg D ad st a (c_X5_net_no l cg D ad st hst a ha (by omega))).mono (no_fin hX hy)
theorem m_net (l : Launch) (cg : Nat → ClassId) (D : va_G) (ad : Nat → Nat) (st : Nat → Nat → Int) (RR : Nat → Nat) (DD : Nat → Nat → Int) (hB : BV st) (hI : bRows st RR DD) (a : Int) (ha : -2147483648 ≤ a ∧ a < 2147483648) : MI l yX6_net wsX6_net ({ frames := 5, cells := 0, slots := 0, locals := 129 }) D vwCl (TY cg) 26 (celM cg) ad st [.ref (ad 0), .int (iI a)] (fun z st1 => ∃ b1, POR (C_net st RR DD a) (P_net st RR DD a) st (st1 0 29) z b1 ∧ BEq b1 st1) := by
  by_cases hy : 0 ≤ a ∧ a ≤ 4
  · obtain ⟨y, rfl⟩ : ∃ y : Nat, a = y := ⟨a.toNat, by omega⟩
    exact (c_X6_net l cg D ad st y hB RR DD hI (by omega)).mono (mrd_fin hy (fun v hv => by unfold P_net; exact hv))
  · exact (c_X6_net_noq l cg D ad st a hB ha (by omega)).mono (mno_fin hy)
theorem w_carried (l : Launch) (cg : Nat → ClassId) (D : va_G) (ad : Nat → Nat) (st : Nat → Nat → Int) (hst : l.stackTraces = false) (b : Nat → Nat → Int) (hX : XI st b) (a : Int) (ha : -2147483648 ≤ a ∧ a < 2147483648) : WI l yL_carried wsL_carried ({ frames := 9, cells := 1, slots := 6, locals := 180 }) D vwCl (TY cg) 74 (celW cg) ad st [.ref (ad 0), .int (iI a), .ref (ad 73)] (fun z st1 => ∃ v b1, POR (C_carried b (xR st) (xD st) a) (P_carried b (xR st) (xD st) a) b z v b1 ∧ XI st1 b1 ∧ (z = 0 → st1 73 0 = wr v)) := by
  by_cases hy : 0 ≤ a ∧ a ≤ 4
  · obtain ⟨y, rfl⟩ : ∃ y : Nat, a = y := ⟨a.toNat, by omega⟩
    exact (c_L_carried_okw l cg D ad st (y : Int) _ (c_X5_carried l cg D ad st b hX y (by omega))).mono (rd_fin hX hy (fun v hv => by unfold P_carried; rw [Int.toNat_natCast]; exact hv))
  · exact (c_L_carried_no1 l cg D ad st a (c_X5_carried_no l cg D ad st hst a ha (by omega))).mono (no_fin hX hy)
theorem m_carried (l : Launch) (cg : Nat → ClassId) (D : va_G) (ad : Nat → Nat) (st : Nat → Nat → Int) (RR : Nat → Nat) (DD : Nat → Nat → Int) (hB : BV st) (hI : bRows st RR DD) (a : Int) (ha : -2147483648 ≤ a ∧ a < 2147483648) : MI l yX6_carried wsX6_carried ({ frames := 7, cells := 0, slots := 0, locals := 180 }) D vwCl (TY cg) 26 (celM cg) ad st [.ref (ad 0), .int (iI a)] (fun z st1 => ∃ b1, POR (C_carried st RR DD a) (P_carried st RR DD a) st (st1 0 29) z b1 ∧ BEq b1 st1) := by
  by_cases hy : 0 ≤ a ∧ a ≤ 4
  · obtain ⟨y, rfl⟩ : ∃ y : Nat, a = y := ⟨a.toNat, by omega⟩
    exact (c_X6_carried l cg D ad st y hB RR DD hI (by omega)).mono (mrd_fin hy (fun v hv => by unfold P_carried; rw [Int.toNat_natCast]; exact hv))
  · exact (c_X6_carried_noq l cg D ad st a hB ha (by omega)).mono (mno_fin hy)
theorem w_taxable (l : Launch) (cg : Nat → ClassId) (D : va_G) (ad : Nat → Nat) (st : Nat → Nat → Int) (hst : l.stackTraces = false) (b : Nat → Nat → Int) (hX : XI st b) (a : Int) (ha : -2147483648 ≤ a ∧ a < 2147483648) : WI l yL_taxable wsL_taxable ({ frames := 9, cells := 1, slots := 6, locals := 180 }) D vwCl (TY cg) 74 (celW cg) ad st [.ref (ad 0), .int (iI a), .ref (ad 73)] (fun z st1 => ∃ v b1, POR (C_taxable b (xR st) (xD st) a) (P_taxable b (xR st) (xD st) a) b z v b1 ∧ XI st1 b1 ∧ (z = 0 → st1 73 0 = wr v)) := by
  by_cases hy : 0 ≤ a ∧ a ≤ 4
  · obtain ⟨y, rfl⟩ : ∃ y : Nat, a = y := ⟨a.toNat, by omega⟩
    exact (c_L_taxable_okw l cg D ad st (y : Int) _ (c_X5_taxable l cg D ad st b hX y (by omega))).mono (rd_fin hX hy (fun v hv => by unfold P_taxable; rw [Int.toNat_natCast]; exact hv))
  · exact (c_L_taxable_no1 l cg D ad st a (c_X5_taxable_no l cg D ad st hst a ha (by omega))).mono (no_fin hX hy)
theorem m_taxable (l : Launch) (cg : Nat → ClassId) (D : va_G) (ad : Nat → Nat) (st : Nat → Nat → Int) (RR : Nat → Nat) (DD : Nat → Nat → Int) (hB : BV st) (hI : bRows st RR DD) (a : Int) (ha : -2147483648 ≤ a ∧ a < 2147483648) : MI l yX6_taxable wsX6_taxable ({ frames := 7, cells := 0, slots := 0, locals := 180 }) D vwCl (TY cg) 26 (celM cg) ad st [.ref (ad 0), .int (iI a)] (fun z st1 => ∃ b1, POR (C_taxable st RR DD a) (P_taxable st RR DD a) st (st1 0 29) z b1 ∧ BEq b1 st1) := by
  by_cases hy : 0 ≤ a ∧ a ≤ 4
  · obtain ⟨y, rfl⟩ : ∃ y : Nat, a = y := ⟨a.toNat, by omega⟩
    exact (c_X6_taxable l cg D ad st y hB RR DD hI (by omega)).mono (mrd_fin hy (fun v hv => by unfold P_taxable; rw [Int.toNat_natCast]; exact hv))
  · exact (c_X6_taxable_noq l cg D ad st a hB ha (by omega)).mono (mno_fin hy)
