-- the entries in one relation
def E4 (C1 C2 C3 : Prop) (b : Nat → Nat → Int) (val : Int) (bn : Nat → Nat → Int) (k v : Int) (b1 : Nat → Nat → Int) : Prop :=
  (¬ C1 ∧ k = 1 ∧ b1 = b) ∨ (C1 ∧ ¬ C2 ∧ k = 2 ∧ b1 = b) ∨ (C1 ∧ C2 ∧ ¬ C3 ∧ k = 3 ∧ b1 = b) ∨ (C1 ∧ C2 ∧ C3 ∧ k = 0 ∧ v = val ∧ b1 = bn)
theorem E4.f {C1 C2 C3 : Prop} {b bn b1 b2 : Nat → Nat → Int} {val k v k2 v2 : Int} (h1 : E4 C1 C2 C3 b val bn k v b1) (h2 : E4 C1 C2 C3 b val bn k2 v2 b2) : SAME k v b1 k2 v2 b2 := by
  rcases h1 with ⟨a1, a2, a3⟩ | ⟨a1, a2, a3, a4⟩ | ⟨a1, a2, a3, a4, a5⟩ | ⟨a1, a2, a3, a4, a5, a6⟩ <;> rcases h2 with ⟨c1, c2, c3⟩ | ⟨c1, c2, c3, c4⟩ | ⟨c1, c2, c3, c4, c5⟩ | ⟨c1, c2, c3, c4, c5, c6⟩
  · exact ⟨by omega, fun h => by omega, by rw [a3, c3]⟩
  · exact absurd c1 a1
  · exact absurd c1 a1
  · exact absurd c1 a1
  · exact absurd a1 c1
  · exact ⟨by omega, fun h => by omega, by rw [a4, c4]⟩
  · exact absurd c2 a2
  · exact absurd c2 a2
  · exact absurd a1 c1
  · exact absurd a2 c2
  · exact ⟨by omega, fun h => by omega, by rw [a5, c5]⟩
  · exact absurd c3 a3
  · exact absurd a1 c1
  · exact absurd a2 c2
  · exact absurd a3 c3
  · exact ⟨by omega, fun _ => by rw [a5, c5], by rw [a6, c6]⟩
theorem E4.k {C1 C2 C3 : Prop} {b bn b1 : Nat → Nat → Int} {val k v : Int} (h : E4 C1 C2 C3 b val bn k v b1) : 0 ≤ k ∧ k ≤ 3 := by
  rcases h with ⟨-, h, -⟩ | ⟨-, -, h, -⟩ | ⟨-, -, -, h, -⟩ | ⟨-, -, -, h, -⟩ <;> omega
theorem POR.k {C : Prop} {P : Int → Prop} {b b1 : Nat → Nat → Int} {k v : Int} (h : POR C P b k v b1) : 0 ≤ k ∧ k ≤ 3 := by
  rcases h with ⟨-, h, -⟩ | ⟨-, h, -⟩ <;> omega
section FIN2
variable {st b bn : Nat → Nat → Int} {C1 C2 C3 : Prop} {val : Int} {Pv : Int → (Nat → Nat → Int) → Prop}
theorem en_fin (h1 : C1) (h2 : C2) (h3 : C3) (h : ∀ v u, Pv v u → XI u bn ∧ v = val) : ∀ (z : Int) (u : Nat → Nat → Int), (z = 0 ∧ ∃ (v : Int) (u1 : Nat → Nat → Int), Pv v u1 ∧ u = stC (up 73 (fun k => k) u1 st) 73 (fnU (up 73 (fun k => k) u1 st 73) 0 (wr v))) → ∃ (v : Int) (b1 : Nat → Nat → Int), E4 C1 C2 C3 b val bn z v b1 ∧ XI u b1 ∧ (z = 0 → u 73 0 = wr v) := by
  rintro z u ⟨g1, v, u1, g2, g4⟩
  obtain ⟨g5, g6⟩ := h v u1 g2
  exact ⟨v, bn, Or.inr (Or.inr (Or.inr ⟨h1, h2, h3, g1, g6, rfl⟩)), by rw [g4]; exact XI_out g5, fun _ => by rw [g4, stC_eq, fnU_eq]⟩
theorem en_finV {Pw : (Nat → Nat → Int) → Prop} (h1 : C1) (h2 : C2) (h3 : C3) (h : ∀ u, Pw u → XI u bn) : ∀ (z : Int) (u : Nat → Nat → Int), (z = 0 ∧ ∃ (u1 : Nat → Nat → Int), Pw u1 ∧ u = up 73 (fun k => k) u1 st) → ∃ (v : Int) (b1 : Nat → Nat → Int), E4 C1 C2 C3 b val bn z v b1 ∧ XI u b1 := by
  rintro z u ⟨g1, u1, g2, g4⟩
  exact ⟨val, bn, Or.inr (Or.inr (Or.inr ⟨h1, h2, h3, g1, rfl, rfl⟩)), by rw [g4]; exact XI_up (h u1 g2)⟩
theorem en_1 (hX : XI st b) (h1 : ¬ C1) : ∀ (z : Int) (u : Nat → Nat → Int), (z = 1 ∧ u = st) → ∃ (v : Int) (b1 : Nat → Nat → Int), E4 C1 C2 C3 b val bn z v b1 ∧ XI u b1 ∧ (z = 0 → u 73 0 = wr v) := by
  rintro z u ⟨g1, g2⟩
  exact ⟨0, b, Or.inl ⟨h1, g1, rfl⟩, by rw [g2]; exact hX, fun h => by omega⟩
theorem en_2 (hX : XI st b) (h1 : C1) (h2 : ¬ C2) : ∀ (z : Int) (u : Nat → Nat → Int), (z = 2 ∧ u = st) → ∃ (v : Int) (b1 : Nat → Nat → Int), E4 C1 C2 C3 b val bn z v b1 ∧ XI u b1 ∧ (z = 0 → u 73 0 = wr v) := by
  rintro z u ⟨g1, g2⟩
  exact ⟨0, b, Or.inr (Or.inl ⟨h1, h2, g1, rfl⟩), by rw [g2]; exact hX, fun h => by omega⟩
theorem en_3 (hX : XI st b) (h1 : C1) (h2 : C2) (h3 : ¬ C3) : ∀ (z : Int) (u : Nat → Nat → Int), (z = 3 ∧ u = st) → ∃ (v : Int) (b1 : Nat → Nat → Int), E4 C1 C2 C3 b val bn z v b1 ∧ XI u b1 ∧ (z = 0 → u 73 0 = wr v) := by
  rintro z u ⟨g1, g2⟩
  exact ⟨0, b, Or.inr (Or.inr (Or.inl ⟨h1, h2, h3, g1, rfl⟩)), by rw [g2]; exact hX, fun h => by omega⟩
theorem ev_1 (hX : XI st b) (h1 : ¬ C1) : ∀ (z : Int) (u : Nat → Nat → Int), (z = 1 ∧ u = st) → ∃ (v : Int) (b1 : Nat → Nat → Int), E4 C1 C2 C3 b val bn z v b1 ∧ XI u b1 := by
  rintro z u ⟨g1, g2⟩
  exact ⟨0, b, Or.inl ⟨h1, g1, rfl⟩, by rw [g2]; exact hX⟩
theorem ev_2 (hX : XI st b) (h1 : C1) (h2 : ¬ C2) : ∀ (z : Int) (u : Nat → Nat → Int), (z = 2 ∧ u = st) → ∃ (v : Int) (b1 : Nat → Nat → Int), E4 C1 C2 C3 b val bn z v b1 ∧ XI u b1 := by
  rintro z u ⟨g1, g2⟩
  exact ⟨0, b, Or.inr (Or.inl ⟨h1, h2, g1, rfl⟩), by rw [g2]; exact hX⟩
end FIN2
def C1 (a d : Int) : Prop := (0 ≤ a ∧ a ≤ 2) ∧ 0 ≤ d ∧ d ≤ 1824
def C2 (ct mo : Int) : Prop := (1 ≤ ct ∧ ct ≤ 1000) ∧ 0 ≤ mo ∧ mo ≤ 1000000
def C3s (b : Nat → Nat → Int) (a d ct : Int) : Prop := bN b < 60 ∧ ∀ e, d ≤ e → ct * fla (bSD b a.toNat) (bSF b a.toNat) (bM b a.toNat) d ≤ bH b a.toNat e
def C3f (b : Nat → Nat → Int) (a d : Int) : Prop := bM b a.toNat < 4 ∧ ∀ j, j < bM b a.toNat → bSD b a.toNat j ≠ d
def C2c (b : Nat → Nat → Int) (t : Int) : Prop := b 6 t.toNat = 0 ∧ (b 5 t.toNat = 0 → ∀ e, b 2 t.toNat ≤ e → bU b (b 1 t.toNat).toNat t.toNat ≤ bH b (b 1 t.toNat).toNat e)
theorem not_spare {f : Int → Int} {d x : Int} (h : ¬ ∀ e, d ≤ e → x ≤ f e) : ∃ e, d ≤ e ∧ f e < x := Classical.byContradiction fun g => h fun e he => Int.not_lt.mp fun q => g ⟨e, he, q⟩

set_option maxHeartbeats 1000000 in
theorem w_buy (l : Launch) (cg : Nat → ClassId) (D : va_G) (ad : Nat → Nat) (st : Nat → Nat → Int) (hst : l.stackTraces = false) (b : Nat → Nat → Int) (hX : XI st b) (a d ct mo : Int) (ha : -2147483648 ≤ a ∧ a < 2147483648) (hd : -2147483648 ≤ d ∧ d < 2147483648) (hc : -2147483648 ≤ ct ∧ ct < 2147483648) (hm : -2147483648 ≤ mo ∧ mo < 2147483648) : WI l yL_buy wsL_buy ({ frames := 9, cells := 1, slots := 6, locals := 180 }) D vwCl (TY cg) 74 (celW cg) ad st [.ref (ad 0), .int (iI a), .int (iI d), .int (iI ct), .int (iI mo), .ref (ad 73)] (fun z st1 => ∃ v b1, E4 (C1 a d) (C2 ct mo) (bN b < 60) b (bN b) (entM b a d ct mo 0) z v b1 ∧ XI st1 b1 ∧ (z = 0 → st1 73 0 = wr v)) := by
  have hn6 : bN b ≤ 60 := hX.1.2.1.1
  have h16 := hX.2.1.n hX.1.j
  by_cases hA : 0 ≤ a ∧ a ≤ 2
  · by_cases hD : 0 ≤ d ∧ d ≤ 1824
    · have g1 : C1 a d := ⟨hA, hD⟩
      by_cases hC : 1 ≤ ct ∧ ct ≤ 1000
      · by_cases hM : 0 ≤ mo ∧ mo ≤ 1000000
        · have g2 : C2 ct mo := ⟨hC, hM⟩
          by_cases hn : bN b < 60
          · rcases (show a = 0 ∨ a = 1 ∨ a = 2 by omega) with h | h | h <;> subst h
            · exact (c_L_buy_okw l cg D ad st 0 d ct mo _ (c_X5_buy_0 l cg D ad st b hX d ct mo hn (by omega) hC hM)).mono (en_fin g1 g2 hn (fun v u h => h))
            · exact (c_L_buy_okw l cg D ad st 1 d ct mo _ (c_X5_buy_1 l cg D ad st b hX d ct mo hn (by omega) hC hM)).mono (en_fin g1 g2 hn (fun v u h => h))
            · exact (c_L_buy_okw l cg D ad st 2 d ct mo _ (c_X5_buy_2 l cg D ad st b hX d ct mo hn (by omega) hC hM)).mono (en_fin g1 g2 hn (fun v u h => h))
          · rcases (show a = 0 ∨ a = 1 ∨ a = 2 by omega) with h | h | h <;> subst h
            · exact (c_L_buy_no3 l cg D ad st 0 d ct mo (c_X5_buy_noR_0 l cg D ad st hst d ct mo (by omega) hC hM (by omega))).mono (en_3 hX g1 g2 (fun h => hn h))
            · exact (c_L_buy_no3 l cg D ad st 1 d ct mo (c_X5_buy_noR_1 l cg D ad st hst d ct mo (by omega) hC hM (by omega))).mono (en_3 hX g1 g2 (fun h => hn h))
            · exact (c_L_buy_no3 l cg D ad st 2 d ct mo (c_X5_buy_noR_2 l cg D ad st hst d ct mo (by omega) hC hM (by omega))).mono (en_3 hX g1 g2 (fun h => hn h))
        · rcases (show a = 0 ∨ a = 1 ∨ a = 2 by omega) with h | h | h <;> subst h
          · exact (c_L_buy_no2 l cg D ad st 0 d ct mo (c_X5_buy_noM_0 l cg D ad st hst d ct mo (by omega) hC hm hM)).mono (en_2 hX g1 (fun h => hM h.2))
          · exact (c_L_buy_no2 l cg D ad st 1 d ct mo (c_X5_buy_noM_1 l cg D ad st hst d ct mo (by omega) hC hm hM)).mono (en_2 hX g1 (fun h => hM h.2))
          · exact (c_L_buy_no2 l cg D ad st 2 d ct mo (c_X5_buy_noM_2 l cg D ad st hst d ct mo (by omega) hC hm hM)).mono (en_2 hX g1 (fun h => hM h.2))
      · rcases (show a = 0 ∨ a = 1 ∨ a = 2 by omega) with h | h | h <;> subst h
        · exact (c_L_buy_no2 l cg D ad st 0 d ct mo (c_X5_buy_noC_0 l cg D ad st hst d ct mo (by omega) hc hC)).mono (en_2 hX g1 (fun h => hC h.1))
        · exact (c_L_buy_no2 l cg D ad st 1 d ct mo (c_X5_buy_noC_1 l cg D ad st hst d ct mo (by omega) hc hC)).mono (en_2 hX g1 (fun h => hC h.1))
        · exact (c_L_buy_no2 l cg D ad st 2 d ct mo (c_X5_buy_noC_2 l cg D ad st hst d ct mo (by omega) hc hC)).mono (en_2 hX g1 (fun h => hC h.1))
    · rcases (show a = 0 ∨ a = 1 ∨ a = 2 by omega) with h | h | h <;> subst h
      · exact (c_L_buy_no1 l cg D ad st 0 d ct mo (c_X5_buy_noD_0 l cg D ad st hst d ct mo hd (by omega))).mono (en_1 hX (fun h => hD h.2))
      · exact (c_L_buy_no1 l cg D ad st 1 d ct mo (c_X5_buy_noD_1 l cg D ad st hst d ct mo hd (by omega))).mono (en_1 hX (fun h => hD h.2))
      · exact (c_L_buy_no1 l cg D ad st 2 d ct mo (c_X5_buy_noD_2 l cg D ad st hst d ct mo hd (by omega))).mono (en_1 hX (fun h => hD h.2))
  · exact (c_L_buy_no1 l cg D ad st a d ct mo (c_X5_buy_noA l cg D ad st hst a d ct mo ha (by omega))).mono (en_1 hX (fun h => hA h.1))
set_option maxHeartbeats 1000000 in
theorem m_buy (l : Launch) (cg : Nat → ClassId) (D : va_G) (ad : Nat → Nat) (st : Nat → Nat → Int) (RR : Nat → Nat) (DD : Nat → Nat → Int) (hB : BV st) (hI : bRows st RR DD) (a d ct mo : Int) (ha : -2147483648 ≤ a ∧ a < 2147483648) (hd : -2147483648 ≤ d ∧ d < 2147483648) (hc : -2147483648 ≤ ct ∧ ct < 2147483648) (hm : -2147483648 ≤ mo ∧ mo < 2147483648) : MI l yX6_buy wsX6_buy ({ frames := 4, cells := 0, slots := 0, locals := 120 }) D vwCl (TY cg) 26 (celM cg) ad st [.ref (ad 0), .int (iI a), .int (iI d), .int (iI ct), .int (iI mo)] (fun z st1 => ∃ b1, E4 (C1 a d) (C2 ct mo) (bN st < 60) st (bN st) (entM st a d ct mo 0) (st1 0 29) z b1 ∧ BEq b1 st1) := by
  by_cases hC : C1 a d ∧ C2 ct mo
  · obtain ⟨g1, g2⟩ := hC
    obtain ⟨⟨g3, g4⟩, g5, g6⟩ := id g1
    obtain ⟨g7, g8⟩ := id g2
    obtain ⟨v, rfl⟩ : ∃ v : Nat, a = v := ⟨a.toNat, by omega⟩
    have hv : v < 3 := by omega
    refine (c_X6_buy l cg D ad st v d ct mo hB hv (by omega) g7 g8).mono (fun z u h => ?_)
    rcases h with ⟨h0, h1, h2⟩ | ⟨h0, ⟨h1, h2, h3, h4⟩ | ⟨h1, h2, k, h3, h4, h5⟩⟩
    · exact ⟨st, Or.inr (Or.inr (Or.inl ⟨g1, g2, fun h => by omega, h2, rfl⟩)), h1.be⟩
    · refine ⟨_, Or.inr (Or.inr (Or.inr ⟨g1, g2, ?_, h3, h1, rfl⟩)), h2.be⟩
      exact h0
    · exact absurd h5 (Int.not_lt.mpr (buy_yes hB (by omega) v hv _))
  · exact (c_X6_buy_noq l cg D ad st a d ct mo hB ha hd hc hm hC).mono (fun z u ⟨h1, h2⟩ => by
      rcases h2 with ⟨h2, h3⟩ | ⟨h2, h3⟩
      · exact ⟨st, Or.inl ⟨h2, h3, rfl⟩, h1.be⟩
      · exact ⟨st, Or.inr (Or.inl ⟨h2, fun h => hC ⟨h2, h⟩, h3, rfl⟩), h1.be⟩)
set_option maxHeartbeats 1000000 in
theorem w_sell (l : Launch) (cg : Nat → ClassId) (D : va_G) (ad : Nat → Nat) (st : Nat → Nat → Int) (hst : l.stackTraces = false) (b : Nat → Nat → Int) (hX : XI st b) (a d ct mo : Int) (ha : -2147483648 ≤ a ∧ a < 2147483648) (hd : -2147483648 ≤ d ∧ d < 2147483648) (hc : -2147483648 ≤ ct ∧ ct < 2147483648) (hm : -2147483648 ≤ mo ∧ mo < 2147483648) : WI l yL_sell wsL_sell ({ frames := 9, cells := 1, slots := 6, locals := 180 }) D vwCl (TY cg) 74 (celW cg) ad st [.ref (ad 0), .int (iI a), .int (iI d), .int (iI ct), .int (iI mo), .ref (ad 73)] (fun z st1 => ∃ v b1, E4 (C1 a d) (C2 ct mo) (C3s b a d ct) b (bN b) (entM b a d ct mo 1) z v b1 ∧ XI st1 b1 ∧ (z = 0 → st1 73 0 = wr v)) := by
  have hn6 : bN b ≤ 60 := hX.1.2.1.1
  have h16 := hX.2.1.n hX.1.j
  by_cases hA : 0 ≤ a ∧ a ≤ 2
  · by_cases hD : 0 ≤ d ∧ d ≤ 1824
    · have g1 : C1 a d := ⟨hA, hD⟩
      by_cases hC : 1 ≤ ct ∧ ct ≤ 1000
      · by_cases hM : 0 ≤ mo ∧ mo ≤ 1000000
        · have g2 : C2 ct mo := ⟨hC, hM⟩
          by_cases hn : bN b < 60
          · by_cases hS : ∀ e, d ≤ e → ct * fla (bSD b a.toNat) (bSF b a.toNat) (bM b a.toNat) d ≤ bH b a.toNat e
            · rcases (show a = 0 ∨ a = 1 ∨ a = 2 by omega) with h | h | h <;> subst h
              · exact (c_L_sell_okw l cg D ad st 0 d ct mo _ (c_X5_sell_0 l cg D ad st b hX d ct mo hn (by omega) hC hM hS)).mono (en_fin g1 g2 ⟨hn, hS⟩ (fun v u h => h))
              · exact (c_L_sell_okw l cg D ad st 1 d ct mo _ (c_X5_sell_1 l cg D ad st b hX d ct mo hn (by omega) hC hM hS)).mono (en_fin g1 g2 ⟨hn, hS⟩ (fun v u h => h))
              · exact (c_L_sell_okw l cg D ad st 2 d ct mo _ (c_X5_sell_2 l cg D ad st b hX d ct mo hn (by omega) hC hM hS)).mono (en_fin g1 g2 ⟨hn, hS⟩ (fun v u h => h))
            · rcases (show a = 0 ∨ a = 1 ∨ a = 2 by omega) with h | h | h <;> subst h
              · exact (c_L_sell_no3 l cg D ad st 0 d ct mo (c_X5_sell_noS_0 l cg D ad st hst b hX d ct mo (by omega) hC hM hn (not_spare hS))).mono (en_3 hX g1 g2 (fun h => hS h.2))
              · exact (c_L_sell_no3 l cg D ad st 1 d ct mo (c_X5_sell_noS_1 l cg D ad st hst b hX d ct mo (by omega) hC hM hn (not_spare hS))).mono (en_3 hX g1 g2 (fun h => hS h.2))
              · exact (c_L_sell_no3 l cg D ad st 2 d ct mo (c_X5_sell_noS_2 l cg D ad st hst b hX d ct mo (by omega) hC hM hn (not_spare hS))).mono (en_3 hX g1 g2 (fun h => hS h.2))
          · rcases (show a = 0 ∨ a = 1 ∨ a = 2 by omega) with h | h | h <;> subst h
            · exact (c_L_sell_no3 l cg D ad st 0 d ct mo (c_X5_sell_noR_0 l cg D ad st hst d ct mo (by omega) hC hM (by omega))).mono (en_3 hX g1 g2 (fun h => hn h.1))
            · exact (c_L_sell_no3 l cg D ad st 1 d ct mo (c_X5_sell_noR_1 l cg D ad st hst d ct mo (by omega) hC hM (by omega))).mono (en_3 hX g1 g2 (fun h => hn h.1))
            · exact (c_L_sell_no3 l cg D ad st 2 d ct mo (c_X5_sell_noR_2 l cg D ad st hst d ct mo (by omega) hC hM (by omega))).mono (en_3 hX g1 g2 (fun h => hn h.1))
        · rcases (show a = 0 ∨ a = 1 ∨ a = 2 by omega) with h | h | h <;> subst h
          · exact (c_L_sell_no2 l cg D ad st 0 d ct mo (c_X5_sell_noM_0 l cg D ad st hst d ct mo (by omega) hC hm hM)).mono (en_2 hX g1 (fun h => hM h.2))
          · exact (c_L_sell_no2 l cg D ad st 1 d ct mo (c_X5_sell_noM_1 l cg D ad st hst d ct mo (by omega) hC hm hM)).mono (en_2 hX g1 (fun h => hM h.2))
          · exact (c_L_sell_no2 l cg D ad st 2 d ct mo (c_X5_sell_noM_2 l cg D ad st hst d ct mo (by omega) hC hm hM)).mono (en_2 hX g1 (fun h => hM h.2))
      · rcases (show a = 0 ∨ a = 1 ∨ a = 2 by omega) with h | h | h <;> subst h
        · exact (c_L_sell_no2 l cg D ad st 0 d ct mo (c_X5_sell_noC_0 l cg D ad st hst d ct mo (by omega) hc hC)).mono (en_2 hX g1 (fun h => hC h.1))
        · exact (c_L_sell_no2 l cg D ad st 1 d ct mo (c_X5_sell_noC_1 l cg D ad st hst d ct mo (by omega) hc hC)).mono (en_2 hX g1 (fun h => hC h.1))
        · exact (c_L_sell_no2 l cg D ad st 2 d ct mo (c_X5_sell_noC_2 l cg D ad st hst d ct mo (by omega) hc hC)).mono (en_2 hX g1 (fun h => hC h.1))
    · rcases (show a = 0 ∨ a = 1 ∨ a = 2 by omega) with h | h | h <;> subst h
      · exact (c_L_sell_no1 l cg D ad st 0 d ct mo (c_X5_sell_noD_0 l cg D ad st hst d ct mo hd (by omega))).mono (en_1 hX (fun h => hD h.2))
      · exact (c_L_sell_no1 l cg D ad st 1 d ct mo (c_X5_sell_noD_1 l cg D ad st hst d ct mo hd (by omega))).mono (en_1 hX (fun h => hD h.2))
      · exact (c_L_sell_no1 l cg D ad st 2 d ct mo (c_X5_sell_noD_2 l cg D ad st hst d ct mo hd (by omega))).mono (en_1 hX (fun h => hD h.2))
  · exact (c_L_sell_no1 l cg D ad st a d ct mo (c_X5_sell_noA l cg D ad st hst a d ct mo ha (by omega))).mono (en_1 hX (fun h => hA h.1))
set_option maxHeartbeats 1000000 in
theorem m_sell (l : Launch) (cg : Nat → ClassId) (D : va_G) (ad : Nat → Nat) (st : Nat → Nat → Int) (RR : Nat → Nat) (DD : Nat → Nat → Int) (hB : BV st) (hI : bRows st RR DD) (a d ct mo : Int) (ha : -2147483648 ≤ a ∧ a < 2147483648) (hd : -2147483648 ≤ d ∧ d < 2147483648) (hc : -2147483648 ≤ ct ∧ ct < 2147483648) (hm : -2147483648 ≤ mo ∧ mo < 2147483648) : MI l yX6_sell wsX6_sell ({ frames := 4, cells := 0, slots := 0, locals := 120 }) D vwCl (TY cg) 26 (celM cg) ad st [.ref (ad 0), .int (iI a), .int (iI d), .int (iI ct), .int (iI mo)] (fun z st1 => ∃ b1, E4 (C1 a d) (C2 ct mo) (C3s st a d ct) st (bN st) (entM st a d ct mo 1) (st1 0 29) z b1 ∧ BEq b1 st1) := by
  by_cases hC : C1 a d ∧ C2 ct mo
  · obtain ⟨g1, g2⟩ := hC
    obtain ⟨⟨g3, g4⟩, g5, g6⟩ := id g1
    obtain ⟨g7, g8⟩ := id g2
    obtain ⟨v, rfl⟩ : ∃ v : Nat, a = v := ⟨a.toNat, by omega⟩
    have hv : v < 3 := by omega
    refine (c_X6_sell l cg D ad st v d ct mo hB hv (by omega) g7 g8).mono (fun z u h => ?_)
    rcases h with ⟨h0, h1, h2⟩ | ⟨h0, ⟨h1, h2, h3, h4⟩ | ⟨h1, h2, k, h3, h4, h5⟩⟩
    · exact ⟨st, Or.inr (Or.inr (Or.inl ⟨g1, g2, fun h => by have := h.1; omega, h2, rfl⟩)), h1.be⟩
    · refine ⟨_, Or.inr (Or.inr (Or.inr ⟨g1, g2, ?_, h3, h1, rfl⟩)), h2.be⟩
      exact ⟨h0, fun e he => by
        rw [Int.toNat_natCast]
        refine Int.not_lt.mp fun q => ?_
        obtain ⟨k, k1, k2, k3⟩ := sell_no (ct := ct) (mo := mo) (hI v hv) ⟨e, he, q⟩
        have := h4 k k1 k2
        omega⟩
    · refine ⟨st, Or.inr (Or.inr (Or.inl ⟨g1, g2, fun h => ?_, h2, rfl⟩)), h1⟩
      have hS := h.2
      rw [Int.toNat_natCast] at hS
      exact absurd h5 (Int.not_lt.mpr (sell_yes hB hS v hv _))
  · exact (c_X6_sell_noq l cg D ad st a d ct mo hB ha hd hc hm hC).mono (fun z u ⟨h1, h2⟩ => by
      rcases h2 with ⟨h2, h3⟩ | ⟨h2, h3⟩
      · exact ⟨st, Or.inl ⟨h2, h3, rfl⟩, h1.be⟩
      · exact ⟨st, Or.inr (Or.inl ⟨h2, fun h => hC ⟨h2, h⟩, h3, rfl⟩), h1.be⟩)
set_option maxHeartbeats 1000000 in
theorem w_split (l : Launch) (cg : Nat → ClassId) (D : va_G) (ad : Nat → Nat) (st : Nat → Nat → Int) (hst : l.stackTraces = false) (b : Nat → Nat → Int) (hX : XI st b) (a d f : Int) (ha : -2147483648 ≤ a ∧ a < 2147483648) (hd : -2147483648 ≤ d ∧ d < 2147483648) (hf : -2147483648 ≤ f ∧ f < 2147483648) : WI l yL_split wsL_split ({ frames := 9, cells := 1, slots := 6, locals := 180 }) D vwCl (TY cg) 74 (celW cg) ad st [.ref (ad 0), .int (iI a), .int (iI d), .int (iI f), .ref (ad 73)] (fun z st1 => ∃ v b1, E4 (C1 a d) (2 ≤ f ∧ f ≤ 5) (C3f b a d) b ((bM b a.toNat : Int) + 1) (splM b a.toNat d f) z v b1 ∧ XI st1 b1 ∧ (z = 0 → st1 73 0 = wr v)) := by
  by_cases hA : 0 ≤ a ∧ a ≤ 2
  · by_cases hD : 0 ≤ d ∧ d ≤ 1824
    · have g1 : C1 a d := ⟨hA, hD⟩
      by_cases hF : 2 ≤ f ∧ f ≤ 5
      · have hno : ∀ v, v < 3 → ¬ (bM b v < 4 ∧ ∀ j, j < bM b v → bSD b v j ≠ d) → bM b v = 4 ∨ ∃ j, j < bM b v ∧ bSD b v j = d := fun v hv h => by
          have h4 := (hX.1.2.2.1 v hv).2.1
          by_cases h5 : bM b v = 4
          · exact Or.inl h5
          · exact Or.inr (Classical.byContradiction fun h6 => h ⟨by omega, fun j hj e => h6 ⟨j, hj, e⟩⟩)
        by_cases hS : C3f b a d
        · rcases (show a = 0 ∨ a = 1 ∨ a = 2 by omega) with h | h | h <;> subst h
          · exact (c_L_split_okw l cg D ad st 0 d f _ (c_X5_split_0 l cg D ad st b hX d f (by omega) hF hS.1 hS.2)).mono (en_fin g1 hF hS (fun v u h => h))
          · exact (c_L_split_okw l cg D ad st 1 d f _ (c_X5_split_1 l cg D ad st b hX d f (by omega) hF hS.1 hS.2)).mono (en_fin g1 hF hS (fun v u h => h))
          · exact (c_L_split_okw l cg D ad st 2 d f _ (c_X5_split_2 l cg D ad st b hX d f (by omega) hF hS.1 hS.2)).mono (en_fin g1 hF hS (fun v u h => h))
        · rcases (show a = 0 ∨ a = 1 ∨ a = 2 by omega) with h | h | h <;> subst h
          · exact (c_L_split_no3 l cg D ad st 0 d f (c_X5_split_noS_0 l cg D ad st hst b hX d f (by omega) hF (hno 0 (by omega) hS))).mono (en_3 hX g1 hF hS)
          · exact (c_L_split_no3 l cg D ad st 1 d f (c_X5_split_noS_1 l cg D ad st hst b hX d f (by omega) hF (hno 1 (by omega) hS))).mono (en_3 hX g1 hF hS)
          · exact (c_L_split_no3 l cg D ad st 2 d f (c_X5_split_noS_2 l cg D ad st hst b hX d f (by omega) hF (hno 2 (by omega) hS))).mono (en_3 hX g1 hF hS)
      · rcases (show a = 0 ∨ a = 1 ∨ a = 2 by omega) with h | h | h <;> subst h
        · exact (c_L_split_no2 l cg D ad st 0 d f (c_X5_split_noF_0 l cg D ad st hst d f (by omega) hf hF)).mono (en_2 hX g1 hF)
        · exact (c_L_split_no2 l cg D ad st 1 d f (c_X5_split_noF_1 l cg D ad st hst d f (by omega) hf hF)).mono (en_2 hX g1 hF)
        · exact (c_L_split_no2 l cg D ad st 2 d f (c_X5_split_noF_2 l cg D ad st hst d f (by omega) hf hF)).mono (en_2 hX g1 hF)
    · rcases (show a = 0 ∨ a = 1 ∨ a = 2 by omega) with h | h | h <;> subst h
      · exact (c_L_split_no1 l cg D ad st 0 d f (c_X5_split_noD_0 l cg D ad st hst d f hd (by omega))).mono (en_1 hX (fun h => hD h.2))
      · exact (c_L_split_no1 l cg D ad st 1 d f (c_X5_split_noD_1 l cg D ad st hst d f hd (by omega))).mono (en_1 hX (fun h => hD h.2))
      · exact (c_L_split_no1 l cg D ad st 2 d f (c_X5_split_noD_2 l cg D ad st hst d f hd (by omega))).mono (en_1 hX (fun h => hD h.2))
  · exact (c_L_split_no1 l cg D ad st a d f (c_X5_split_noA l cg D ad st hst a d f ha (by omega))).mono (en_1 hX (fun h => hA h.1))
theorem m_split (l : Launch) (cg : Nat → ClassId) (D : va_G) (ad : Nat → Nat) (st : Nat → Nat → Int) (RR : Nat → Nat) (DD : Nat → Nat → Int) (hB : BV st) (hI : bRows st RR DD) (a d f : Int) (ha : -2147483648 ≤ a ∧ a < 2147483648) (hd : -2147483648 ≤ d ∧ d < 2147483648) (hf : -2147483648 ≤ f ∧ f < 2147483648) : MI l yX6_split wsX6_split ({ frames := 2, cells := 0, slots := 0, locals := 80 }) D vwCl (TY cg) 26 (celM cg) ad st [.ref (ad 0), .int (iI a), .int (iI d), .int (iI f)] (fun z st1 => ∃ b1, E4 (C1 a d) (2 ≤ f ∧ f ≤ 5) (C3f st a d) st ((bM st a.toNat : Int) + 1) (splM st a.toNat d f) (st1 0 29) z b1 ∧ BEq b1 st1) := by
  by_cases hC : C1 a d ∧ 2 ≤ f ∧ f ≤ 5
  · obtain ⟨g1, g2⟩ := hC
    obtain ⟨⟨g3, g4⟩, g5, g6⟩ := id g1
    obtain ⟨v, rfl⟩ : ∃ v : Nat, a = v := ⟨a.toNat, by omega⟩
    refine (c_X6_split l cg D ad st v d f hB (by omega) (by omega) g2).mono (fun z u h => ?_)
    rcases h with ⟨h1, h2, h3⟩ | ⟨h1, h2, h3, h4, h5⟩
    · refine ⟨st, Or.inr (Or.inr (Or.inl ⟨g1, g2, fun h => ?_, h1, rfl⟩)), h2.be⟩
      unfold C3f at h
      rw [Int.toNat_natCast] at h
      rcases h3 with h3 | ⟨j, h3, h6⟩
      · have := h.1; omega
      · exact h.2 j h3 h6
    · exact ⟨splM st v d f, Or.inr (Or.inr (Or.inr ⟨g1, g2, by unfold C3f; rw [Int.toNat_natCast]; exact ⟨h4, h5⟩, h2, by rw [Int.toNat_natCast]; exact h3, by rw [Int.toNat_natCast]⟩)), h1.be⟩
  · exact (c_X6_split_no l cg D ad st a d f hB ha hd hf hC).mono (fun z u ⟨h1, h2⟩ => by
      rcases h2 with ⟨h2, h3⟩ | ⟨h2, h3⟩
      · exact ⟨st, Or.inl ⟨h2, h3, rfl⟩, h1.be⟩
      · exact ⟨st, Or.inr (Or.inl ⟨h2, fun h => hC ⟨h2, h⟩, h3, rfl⟩), h1.be⟩)
set_option maxHeartbeats 1000000 in
theorem w_cancel (l : Launch) (cg : Nat → ClassId) (D : va_G) (ad : Nat → Nat) (st : Nat → Nat → Int) (hst : l.stackTraces = false) (b : Nat → Nat → Int) (hX : XI st b) (a : Int) (ha : -2147483648 ≤ a ∧ a < 2147483648) : WI l yL_cancel wsL_cancel ({ frames := 9, cells := 1, slots := 6, locals := 180 }) D vwCl (TY cg) 74 (celW cg) ad st [.ref (ad 0), .int (iI a)] (fun z st1 => ∃ v b1, E4 (0 ≤ a ∧ a < bN b) (C2c b a) True b 0 (canM b a.toNat) z v b1 ∧ XI st1 b1) := by
  by_cases hA : 0 ≤ a ∧ a < bN b
  · obtain ⟨t, rfl⟩ : ∃ t : Nat, a = t := ⟨a.toNat, by omega⟩
    have ht : t < bN b := by omega
    obtain ⟨hsa, hca, hsh, -, -, -⟩ := hX.1.2.1.2 t ht
    by_cases hg : b 6 t = 0
    · have key : ∀ v : Nat, b 1 t = (v : Int) → (C2c b (t : Int) ↔ (b 5 t = 0 → ∀ e, b 2 t ≤ e → bU b v t ≤ bH b v e)) := fun v hv => by
        unfold C2c
        rw [Int.toNat_natCast, hv, Int.toNat_natCast]
        exact ⟨fun h => h.2, fun h => ⟨hg, h⟩⟩
      rcases (show b 1 t = ((0 : Nat) : Int) ∨ b 1 t = ((1 : Nat) : Int) ∨ b 1 t = ((2 : Nat) : Int) by omega) with hv | hv | hv
      · by_cases hS : b 5 t = 0 → ∀ e, b 2 t ≤ e → bU b 0 t ≤ bH b 0 e
        · exact (c_L_cancel_okw l cg D ad st (t : Int) _ (c_X5_cancel_0 l cg D ad st b hX t ht hg hv hS)).mono (en_finV hA ((key 0 hv).mpr hS) trivial (fun u h => by rw [Int.toNat_natCast]; exact h))
        · have h5 : b 5 t = 0 := Classical.byContradiction fun h => hS fun q => absurd q h
          exact (c_L_cancel_no3 l cg D ad st (t : Int) (c_X5_cancel_noS_0 l cg D ad st hst b hX t ht hg h5 hv (not_spare (fun h => hS fun _ => h)))).mono (ev_2 hX hA (fun h => hS ((key 0 hv).mp h)))
      · by_cases hS : b 5 t = 0 → ∀ e, b 2 t ≤ e → bU b 1 t ≤ bH b 1 e
        · exact (c_L_cancel_okw l cg D ad st (t : Int) _ (c_X5_cancel_1 l cg D ad st b hX t ht hg hv hS)).mono (en_finV hA ((key 1 hv).mpr hS) trivial (fun u h => by rw [Int.toNat_natCast]; exact h))
        · have h5 : b 5 t = 0 := Classical.byContradiction fun h => hS fun q => absurd q h
          exact (c_L_cancel_no3 l cg D ad st (t : Int) (c_X5_cancel_noS_1 l cg D ad st hst b hX t ht hg h5 hv (not_spare (fun h => hS fun _ => h)))).mono (ev_2 hX hA (fun h => hS ((key 1 hv).mp h)))
      · by_cases hS : b 5 t = 0 → ∀ e, b 2 t ≤ e → bU b 2 t ≤ bH b 2 e
        · exact (c_L_cancel_okw l cg D ad st (t : Int) _ (c_X5_cancel_2 l cg D ad st b hX t ht hg hv hS)).mono (en_finV hA ((key 2 hv).mpr hS) trivial (fun u h => by rw [Int.toNat_natCast]; exact h))
        · have h5 : b 5 t = 0 := Classical.byContradiction fun h => hS fun q => absurd q h
          exact (c_L_cancel_no3 l cg D ad st (t : Int) (c_X5_cancel_noS_2 l cg D ad st hst b hX t ht hg h5 hv (not_spare (fun h => hS fun _ => h)))).mono (ev_2 hX hA (fun h => hS ((key 2 hv).mp h)))
    · exact (c_L_cancel_no3 l cg D ad st (t : Int) (c_X5_cancel_noG l cg D ad st hst b hX t ht (by omega))).mono (ev_2 hX hA (fun h => hg (by have := h.1; rw [Int.toNat_natCast] at this; exact this)))
  · exact (c_L_cancel_no1 l cg D ad st a (c_X5_cancel_noT l cg D ad st hst b hX a ha hA)).mono (ev_1 hX hA)
set_option maxHeartbeats 1000000 in
theorem m_cancel (l : Launch) (cg : Nat → ClassId) (D : va_G) (ad : Nat → Nat) (st : Nat → Nat → Int) (RR : Nat → Nat) (DD : Nat → Nat → Int) (hB : BV st) (hI : bRows st RR DD) (a : Int) (ha : -2147483648 ≤ a ∧ a < 2147483648) : MV l yX6_cancel wsX6_cancel ({ frames := 3, cells := 0, slots := 0, locals := 80 }) D vwCl (TY cg) 26 (celM cg) ad st [.ref (ad 0), .int (iI a)] (fun st1 => ∃ v b1, E4 (0 ≤ a ∧ a < bN st) (C2c st a) True st 0 (canM st a.toNat) (st1 0 29) v b1 ∧ BEq b1 st1) := by
  by_cases hA : 0 ≤ a ∧ a < bN st
  · obtain ⟨t, rfl⟩ : ∃ t : Nat, a = t := ⟨a.toNat, by omega⟩
    have ht : t < bN st := by omega
    obtain ⟨hsa, hca, hsh, -, -, -⟩ := hB.2.1.2 t ht
    obtain ⟨v, hv⟩ : ∃ v : Nat, st 1 t = v := ⟨(st 1 t).toNat, by omega⟩
    have hv3 : v < 3 := by omega
    have key : C2c st (t : Int) ↔ (st 6 t = 0 ∧ (st 5 t = 0 → ∀ e, st 2 t ≤ e → bU st v t ≤ bH st v e)) := by
      unfold C2c
      rw [Int.toNat_natCast, hv, Int.toNat_natCast]
    refine (c_X6_cancel l cg D ad st t v hB ht hv3 hv).mono (fun u h => ?_)
    rcases h with ⟨h0, h1, h2⟩ | ⟨h0, ⟨h1, h2, h3⟩ | ⟨h1, h2, k, h3, h4, h5⟩⟩
    · exact ⟨0, st, Or.inr (Or.inl ⟨hA, fun h => by have := (key.mp h).1; omega, h2, rfl⟩), h1.be⟩
    · refine ⟨0, canM st t, Or.inr (Or.inr (Or.inr ⟨hA, key.mpr ⟨h0, fun hs e he => ?_⟩, trivial, h2, rfl, by rw [Int.toNat_natCast]⟩)), h1.be⟩
      refine Int.not_lt.mp fun q => ?_
      obtain ⟨k, k1, k2, k3⟩ := can_no (hI v hv3) ht h0 hs hv ⟨e, he, q⟩
      have := h3 k k1 k2
      omega
    · refine ⟨0, st, Or.inr (Or.inl ⟨hA, fun h => ?_, h2, rfl⟩), h1⟩
      by_cases hs : st 5 t = 0
      · have := can_buy hB ht h0 hs hv ((key.mp h).2 hs) v hv3 (st 2 k)
        omega
      · have := can_sale hB ht h0 hs v hv3 (st 2 k)
        omega
  · exact (c_X6_cancel_noq l cg D ad st a hB ha hA).mono (fun u ⟨h1, h2⟩ => ⟨0, st, Or.inl ⟨hA, h2, rfl⟩, h1.be⟩)
theorem w_setAllowance (l : Launch) (cg : Nat → ClassId) (D : va_G) (ad : Nat → Nat) (st : Nat → Nat → Int) (hst : l.stackTraces = false) (b : Nat → Nat → Int) (hX : XI st b) (a x : Int) (ha : -2147483648 ≤ a ∧ a < 2147483648) (hx : -2147483648 ≤ x ∧ x < 2147483648) : WI l yL_setAllowance wsL_setAllowance ({ frames := 9, cells := 1, slots := 6, locals := 180 }) D vwCl (TY cg) 74 (celW cg) ad st [.ref (ad 0), .int (iI a), .int (iI x), .ref (ad 73)] (fun z st1 => ∃ v b1, E4 (0 ≤ a ∧ a ≤ 4) (0 ≤ x ∧ x ≤ 1000000) True b (b 10 a.toNat) (alwM b a.toNat x) z v b1 ∧ XI st1 b1 ∧ (z = 0 → st1 73 0 = wr v)) := by
  by_cases hA : 0 ≤ a ∧ a ≤ 4
  · by_cases hM : 0 ≤ x ∧ x ≤ 1000000
    · obtain ⟨y, rfl⟩ : ∃ y : Nat, a = y := ⟨a.toNat, by omega⟩
      exact (c_L_setAllowance_okw l cg D ad st (y : Int) x _ (c_X5_setAllowance l cg D ad st b hX y x (by omega) hM)).mono (en_fin hA hM trivial (fun v u h => by rw [Int.toNat_natCast]; exact h))
    · exact (c_L_setAllowance_no2 l cg D ad st a x (c_X5_setAllowance_noM l cg D ad st hst a x (by omega) hx hM)).mono (en_2 hX hA hM)
  · exact (c_L_setAllowance_no1 l cg D ad st a x (c_X5_setAllowance_noY l cg D ad st hst a x ha (by omega))).mono (en_1 hX hA)
theorem m_setAllowance (l : Launch) (cg : Nat → ClassId) (D : va_G) (ad : Nat → Nat) (st : Nat → Nat → Int) (RR : Nat → Nat) (DD : Nat → Nat → Int) (hB : BV st) (hI : bRows st RR DD) (a x : Int) (ha : -2147483648 ≤ a ∧ a < 2147483648) (hx : -2147483648 ≤ x ∧ x < 2147483648) : MI l yX6_setAllowance wsX6_setAllowance ({ frames := 1, cells := 0, slots := 0, locals := 50 }) D vwCl (TY cg) 26 (celM cg) ad st [.ref (ad 0), .int (iI a), .int (iI x)] (fun z st1 => ∃ b1, E4 (0 ≤ a ∧ a ≤ 4) (0 ≤ x ∧ x ≤ 1000000) True st (st 10 a.toNat) (alwM st a.toNat x) (st1 0 29) z b1 ∧ BEq b1 st1) := by
  by_cases hC : (0 ≤ a ∧ a ≤ 4) ∧ 0 ≤ x ∧ x ≤ 1000000
  · obtain ⟨y, rfl⟩ : ∃ y : Nat, a = y := ⟨a.toNat, by omega⟩
    exact (c_X6_setAllowance l cg D ad st y x hB (by omega) hC.2).mono (fun z u ⟨h1, h2, h3⟩ => ⟨_, Or.inr (Or.inr (Or.inr ⟨hC.1, hC.2, trivial, h2, by rw [Int.toNat_natCast]; exact h3, rfl⟩)), by rw [Int.toNat_natCast]; exact h1.be⟩)
  · exact (c_X6_setAllowance_no l cg D ad st a x hB ha hx hC).mono (fun z u ⟨h1, h2⟩ => by
      rcases h2 with ⟨h2, h3⟩ | ⟨h2, h3⟩
      · exact ⟨st, Or.inl ⟨h2, h3, rfl⟩, h1.be⟩
      · exact ⟨st, Or.inr (Or.inl ⟨h2, fun h => hC ⟨h2, h⟩, h3, rfl⟩), h1.be⟩)
theorem w_setWindow (l : Launch) (cg : Nat → ClassId) (D : va_G) (ad : Nat → Nat) (st : Nat → Nat → Int) (hst : l.stackTraces = false) (b : Nat → Nat → Int) (hX : XI st b) (a : Int) (ha : -2147483648 ≤ a ∧ a < 2147483648) : WI l yL_setWindow wsL_setWindow ({ frames := 9, cells := 1, slots := 6, locals := 180 }) D vwCl (TY cg) 74 (celW cg) ad st [.ref (ad 0), .int (iI a), .ref (ad 73)] (fun z st1 => ∃ v b1, E4 (0 ≤ a ∧ a ≤ 60) True True b (b 0 11) (winM b a) z v b1 ∧ XI st1 b1 ∧ (z = 0 → st1 73 0 = wr v)) := by
  by_cases hA : 0 ≤ a ∧ a ≤ 60
  · exact (c_L_setWindow_okw l cg D ad st a _ (c_X5_setWindow l cg D ad st b hX a hA)).mono (en_fin hA trivial trivial (fun v u h => h))
  · exact (c_L_setWindow_no2 l cg D ad st a (c_X5_setWindow_no l cg D ad st hst a ha hA)).mono (en_1 hX hA)
theorem m_setWindow (l : Launch) (cg : Nat → ClassId) (D : va_G) (ad : Nat → Nat) (st : Nat → Nat → Int) (RR : Nat → Nat) (DD : Nat → Nat → Int) (hB : BV st) (hI : bRows st RR DD) (a : Int) (ha : -2147483648 ≤ a ∧ a < 2147483648) : MI l yX6_setWindow wsX6_setWindow ({ frames := 1, cells := 0, slots := 0, locals := 50 }) D vwCl (TY cg) 26 (celM cg) ad st [.ref (ad 0), .int (iI a)] (fun z st1 => ∃ b1, E4 (0 ≤ a ∧ a ≤ 60) True True st (st 0 11) (winM st a) (st1 0 29) z b1 ∧ BEq b1 st1) := by
  by_cases hA : 0 ≤ a ∧ a ≤ 60
  · exact (c_X6_setWindow l cg D ad st a hB hA).mono (fun z u ⟨h1, h2, h3⟩ => ⟨_, Or.inr (Or.inr (Or.inr ⟨hA, trivial, trivial, h2, h3, rfl⟩)), h1.be⟩)
  · exact (c_X6_setWindow_no l cg D ad st a hB ha hA).mono (fun z u ⟨h1, h2⟩ => ⟨st, Or.inl ⟨hA, h2, rfl⟩, h1.be⟩)
