-- the class's world and its book
def lR (lg : Nat → Nat → Int) : Nat := (lg 4 9).toNat
def LG (b : Nat → Nat → Int) (v : Nat) (lg : Nat → Nat → Int) : Prop :=
  lg 0 0 = (v : Int) ∧ bRow b v (lR lg) (lg 5) ∧ RC lg (lR lg) (lg 5) (bQ b v (lg 5)) (bC b v (lg 5)) (bS b v (lg 5)) (bP b v (lg 5)) ∧ AL lg (lg 5) (bAA b v (lR lg) (lg 5)) ∧
    ∀ r, r < lR lg → lg 12 r = bPU b v (lR lg) (lg 5) (r + 1) ∧ lg 13 r = bPC b v (lR lg) (lg 5) (r + 1)
def XJ (x b : Nat → Nat → Int) : Prop := x 1 6 = b 0 0 ∧ x 0 3 = b 0 11 ∧ (∀ k, k < bN b → x 4 k = b 1 k ∧ x 5 k = b 2 k ∧ x 6 k = b 3 k ∧ x 7 k = b 4 k ∧ x 2 k = b 5 k ∧ x 3 k = b 6 k) ∧
  (∀ v, v < 3 → sub (embL v) x 1 2 = b 7 v ∧ ∀ i, i < bM b v → sub (embL v) x 2 i = b 8 (4 * v + i) ∧ sub (embL v) x 3 i = b 9 (4 * v + i)) ∧ ∀ y, y < 5 → x 72 y = b 10 y
def XI (x b : Nat → Nat → Int) : Prop := BV b ∧ XJ x b ∧ (∀ v, v < 3 → LG b v (sub (embL v) x)) ∧ ∀ k, bN b ≤ k → k < 60 → x 3 k = 0
def xR (x : Nat → Nat → Int) (v : Nat) : Nat := lR (sub (embL v) x)
def xD (x : Nat → Nat → Int) (v : Nat) : Nat → Int := sub (embL v) x 5
section XS
variable {x b : Nat → Nat → Int}
theorem XJ.n (h : XJ x b) (hB : BJ b) : x 1 6 = (bN b : Int) := h.1.trans hB.1
theorem XJ.J (h : XJ x b) (hB : BJ b) : JV (x 2) (x 3) (x 4) (x 5) (x 6) (x 7) (bN b) := by
  refine ⟨hB.2.1.1, fun k hk => ?_⟩
  obtain ⟨h1, h2, h3, h4, h5, h6⟩ := h.2.2.1 k hk
  rw [h1, h2, h3, h4, h5, h6]; exact hB.2.1.2 k hk
theorem XJ.m (h : XJ x b) (hB : BJ b) {v : Nat} (hv : v < 3) : sub (embL v) x 1 2 = (bM b v : Int) := (h.2.2.2.1 v hv).1.trans (hB.2.2.1 v hv).1
theorem XJ.S (h : XJ x b) (hB : BJ b) {v : Nat} (hv : v < 3) : SPV (sub (embL v) x 2) (sub (embL v) x 3) (bM b v) := by
  refine ⟨(hB.2.2.1 v hv).2.1, fun i hi => ?_⟩
  obtain ⟨h1, h2⟩ := (h.2.2.2.1 v hv).2 i hi
  rw [h1, h2]; exact (hB.2.2.1 v hv).2.2 i hi
theorem XJ.fl (h : XJ x b) {v : Nat} (hv : v < 3) (d : Int) : fla (sub (embL v) x 2) (sub (embL v) x 3) (bM b v) d = fla (bSD b v) (bSF b v) (bM b v) d :=
  pd_congr fun i hi => by obtain ⟨h1, h2⟩ := (h.2.2.2.1 v hv).2 i hi; unfold bSD bSF; rw [h1, h2]
theorem XJ.fc (h : XJ x b) {v : Nat} (hv : v < 3) (d e : Int) : fac (sub (embL v) x 2) (sub (embL v) x 3) (bM b v) d e = fac (bSD b v) (bSF b v) (bM b v) d e :=
  pd_congr fun i hi => by obtain ⟨h1, h2⟩ := (h.2.2.2.1 v hv).2 i hi; unfold bSD bSF; rw [h1, h2]
theorem XJ.lv (h : XJ x b) (v : Nat) {k : Nat} (hk : k < bN b) : lvb (x 3) (x 4) (v : Int) k = bL b v k := by
  obtain ⟨h1, h2, h3, h4, h5, h6⟩ := h.2.2.1 k hk
  unfold bL lvb; rw [h1, h6]
theorem XJ.un (h : XJ x b) {v : Nat} (hv : v < 3) {k : Nat} (hk : k < bN b) : uni (x 6) (x 5) (sub (embL v) x 2) (sub (embL v) x 3) (bM b v) k = bU b v k := by
  obtain ⟨h1, h2, h3, h4, h5, h6⟩ := h.2.2.1 k hk
  unfold bU uni; rw [h3, h2, h.fl hv]
theorem XJ.ho (h : XJ x b) {v : Nat} (hv : v < 3) (d : Int) : hold (lvb (x 3) (x 4) (v : Int)) (x 2) (x 5) (uni (x 6) (x 5) (sub (embL v) x 2) (sub (embL v) x 3) (bM b v)) (bN b) d = bH b v d := by
  unfold bH hold
  congr 1 <;> refine wupto_cg fun k hk => ?_ <;> obtain ⟨h1, h2, h3, h4, h5, h6⟩ := h.2.2.1 k hk
  · exact ⟨h.lv v hk, h2, by unfold wB; rw [h5, h.un hv hk]⟩
  · exact ⟨h.lv v hk, h2, by unfold wS; rw [h5, h.un hv hk]⟩
/-- behind a reckoning: the ledger is the book's -/
theorem LG.of (h : XJ x b) {v : Nat} (hv : v < 3) {lg : Nat → Nat → Int} (h0 : lg 0 0 = (v : Int)) (hL : LOK (x 2) (x 3) (x 4) (x 5) (x 6) (x 7) (sub (embL v) x 2) (sub (embL v) x 3) (bN b) (bM b v) (v : Int) (b 0 11) lg) : LG b v lg := by
  obtain ⟨R, h1, h2, h3, h4⟩ := hL
  have eR : lR lg = R := by unfold lR; rw [h2.1]; omega
  have eQ : qB (lvb (x 3) (x 4) (v : Int)) (x 2) (x 5) (uni (x 6) (x 5) (sub (embL v) x 2) (sub (embL v) x 3) (bM b v)) (bN b) (lg 5) = bQ b v (lg 5) := by
    funext r; unfold bQ qB
    refine wsum_cg fun k hk => ?_
    obtain ⟨g1, g2, g3, g4, g5, g6⟩ := h.2.2.1 k hk
    exact ⟨h.lv v hk, g2, by unfold wB; rw [g5, h.un hv hk]⟩
  have eS : qS (lvb (x 3) (x 4) (v : Int)) (x 2) (x 5) (uni (x 6) (x 5) (sub (embL v) x 2) (sub (embL v) x 3) (bM b v)) (bN b) (lg 5) = bS b v (lg 5) := by
    funext r; unfold bS qS
    refine wsum_cg fun k hk => ?_
    obtain ⟨g1, g2, g3, g4, g5, g6⟩ := h.2.2.1 k hk
    exact ⟨h.lv v hk, g2, by unfold wS; rw [g5, h.un hv hk]⟩
  have eC : qB (lvb (x 3) (x 4) (v : Int)) (x 2) (x 5) (x 7) (bN b) (lg 5) = bC b v (lg 5) := by
    funext r; unfold bC qB
    refine wsum_cg fun k hk => ?_
    obtain ⟨g1, g2, g3, g4, g5, g6⟩ := h.2.2.1 k hk
    exact ⟨h.lv v hk, g2, by unfold wB; rw [g5, g4]⟩
  have eP : qS (lvb (x 3) (x 4) (v : Int)) (x 2) (x 5) (x 7) (bN b) (lg 5) = bP b v (lg 5) := by
    funext r; unfold bP qS
    refine wsum_cg fun k hk => ?_
    obtain ⟨g1, g2, g3, g4, g5, g6⟩ := h.2.2.1 k hk
    exact ⟨h.lv v hk, g2, by unfold wS; rw [g5, g4]⟩
  rw [eQ, eS, eC, eP] at h2 h3
  rw [eQ, eS, eC] at h4
  refine ⟨h0, ?_, ?_, ?_, ?_⟩
  · rw [eR]; exact h1.cg fun k hk => ⟨h.lv v hk, (h.2.2.1 k hk).2.1⟩
  · rw [eR]; exact h2
  · rw [eR]; exact h3
  · rw [eR]; exact h4
/-- two books alike for one share -/
def SEq (u : Nat) (a b : Nat → Nat → Int) : Prop := a 0 11 = b 0 11 ∧ ∀ D : Nat → Int, bQ b u D = bQ a u D ∧ bC b u D = bC a u D ∧ bS b u D = bS a u D ∧ bP b u D = bP a u D ∧ ∀ R, bRow a u R D → bRow b u R D
theorem LG.se {a : Nat → Nat → Int} {u : Nat} {lg : Nat → Nat → Int} (h : SEq u a b) (hL : LG a u lg) : LG b u lg := by
  obtain ⟨h0, h1⟩ := h
  obtain ⟨e1, e2, e3, e4, e5⟩ := h1 (lg 5)
  obtain ⟨g0, g1, g2, g3, g4⟩ := hL
  unfold LG bAA bPU bPC
  rw [e1, e2, e3, e4, ← h0]
  exact ⟨g0, e5 _ g1, g2, g3, g4⟩
theorem BEq.se {a : Nat → Nat → Int} (h : BEq a b) {u : Nat} (hu : u < 3) : SEq u a b := ⟨h.2.1, fun D => ⟨h.Q hu D, h.C hu D, h.S hu D, h.P hu D, fun R hR => h.row hR⟩⟩
theorem XJ.be {a : Nat → Nat → Int} (hX : XJ x a) (h : BEq a b) : XJ x b := by
  refine ⟨hX.1.trans h.1, hX.2.1.trans h.2.1, fun k hk => ?_, fun v hv => ?_, fun y hy => (hX.2.2.2.2 y hy).trans (h.2.2.2.2 y hy)⟩
  · rw [h.N] at hk
    obtain ⟨h1, h2, h3, h4, h5, h6⟩ := h.2.2.1 k hk
    obtain ⟨g1, g2, g3, g4, g5, g6⟩ := hX.2.2.1 k hk
    exact ⟨g1.trans h1, g2.trans h2, g3.trans h3, g4.trans h4, g5.trans h5, g6.trans h6⟩
  · refine ⟨(hX.2.2.2.1 v hv).1.trans (h.2.2.2.1 v hv).1, fun i hi => ?_⟩
    rw [h.M hv] at hi
    exact ⟨((hX.2.2.2.1 v hv).2 i hi).1.trans ((h.2.2.2.1 v hv).2 i hi).1, ((hX.2.2.2.1 v hv).2 i hi).2.trans ((h.2.2.2.1 v hv).2 i hi).2⟩
theorem XI.be {a : Nat → Nat → Int} (hX : XI x a) (h : BEq a b) : XI x b := ⟨hX.1.be h, hX.2.1.be h, fun v hv => (hX.2.2.1 v hv).se (h.se hv), by rw [h.N]; exact hX.2.2.2⟩
theorem XI.rows (hX : XI x b) : bRows b (xR x) (xD x) := fun v hv => (hX.2.2.1 v hv).2.1
theorem entM_se {v u : Nat} {d ct mo sa : Int} (hu : u ≠ v) : SEq u b (entM b (v : Int) d ct mo sa) := by
  have e1 : entM b (v : Int) d ct mo sa 1 = fnU (b 1) (bN b) v := rfl
  have e2 : entM b (v : Int) d ct mo sa 2 = fnU (b 2) (bN b) d := rfl
  have e3 : entM b (v : Int) d ct mo sa 3 = fnU (b 3) (bN b) ct := rfl
  have e4 : entM b (v : Int) d ct mo sa 4 = fnU (b 4) (bN b) mo := rfl
  have e5 : entM b (v : Int) d ct mo sa 5 = fnU (b 5) (bN b) sa := rfl
  have e6 : entM b (v : Int) d ct mo sa 6 = fnU (b 6) (bN b) 0 := rfl
  have hL : ¬ bL (entM b (v : Int) d ct mo sa) u (bN b) = true := by
    unfold bL lvb; rw [e1, e6, fnU_eq, fnU_eq]; simp; omega
  have hlo : ∀ k, k < bN b → bL (entM b (v : Int) d ct mo sa) u k = bL b u k ∧ entM b (v : Int) d ct mo sa 2 k = b 2 k ∧ bU (entM b (v : Int) d ct mo sa) u k = bU b u k ∧ entM b (v : Int) d ct mo sa 5 k = b 5 k ∧ entM b (v : Int) d ct mo sa 4 k = b 4 k := fun k hk => by
    have y : k ≠ bN b := by omega
    refine ⟨by unfold bL lvb; rw [e1, e6, fnU_ne y, fnU_ne y], by rw [e2, fnU_ne y], ?_, by rw [e5, fnU_ne y], by rw [e4, fnU_ne y]⟩
    unfold bU uni; rw [e3, e2, fnU_ne y, fnU_ne y, entM_M, entM_SD, entM_SF]
  have key : ∀ (w w' : Nat → Int) (D : Nat → Int) (r : Nat), (∀ k, k < bN b → w k = w' k) → wsum (bL (entM b (v : Int) d ct mo sa) u) (entM b (v : Int) d ct mo sa 2) w (bN (entM b (v : Int) d ct mo sa)) (D r) = wsum (bL b u) (b 2) w' (bN b) (D r) := fun w w' D r h => by
    rw [entM_N, wsum_dead (fun z => hL z.1)]
    exact wsum_cg fun k hk => ⟨(hlo k hk).1, (hlo k hk).2.1, h k hk⟩
  refine ⟨rfl, fun D => ⟨?_, ?_, ?_, ?_, fun R hR => ?_⟩⟩
  · funext r; exact key _ _ D r fun k hk => by obtain ⟨h1, h2, h3, h4, h5⟩ := hlo k hk; unfold wB; rw [h4, h3]
  · funext r; exact key _ _ D r fun k hk => by obtain ⟨h1, h2, h3, h4, h5⟩ := hlo k hk; unfold wB; rw [h4, h5]
  · funext r; exact key _ _ D r fun k hk => by obtain ⟨h1, h2, h3, h4, h5⟩ := hlo k hk; unfold wS; rw [h4, h3]
  · funext r; exact key _ _ D r fun k hk => by obtain ⟨h1, h2, h3, h4, h5⟩ := hlo k hk; unfold wS; rw [h4, h5]
  · unfold bRow; rw [entM_N]
    exact (hR.cg fun k hk => ⟨((hlo k hk).1).symm, ((hlo k hk).2.1).symm⟩).old (q := 0) fun z => absurd z hL
theorem canM_se {t u : Nat} (hu : b 1 t ≠ (u : Int)) : SEq u b (canM b t) := by
  have e : bL (canM b t) u = bL b u := by
    funext k
    have h6 : canM b t 6 = fnU (b 6) t 1 := rfl
    unfold bL lvb; rw [h6]
    by_cases y : k = t
    · rw [y, show canM b t 1 t = b 1 t from rfl]; simp [hu]
    · rw [fnU_ne y]; rfl
  refine ⟨rfl, fun D => ⟨?_, ?_, ?_, ?_, fun R hR => ?_⟩⟩
  · unfold bQ; rw [e]; rfl
  · unfold bC; rw [e]; rfl
  · unfold bS; rw [e]; rfl
  · unfold bP; rw [e]; rfl
  · unfold bRow; rw [e]; exact hR
theorem splM_se {v u : Nat} {d f : Int} (hm : bM b v < 4) (hu4 : bM b u ≤ 4) (hu : u ≠ v) : SEq u b (splM b v d f) := by
  have e : bU (splM b v d f) u = bU b u := by
    funext k
    show b 3 k * fla (bSD (splM b v d f) u) (bSF (splM b v d f) u) (bM (splM b v d f) u) (b 2 k) = _
    rw [splM_fla hm u hu4, if_neg (fun z => hu z.1), Int.mul_one]; rfl
  refine ⟨rfl, fun D => ⟨?_, rfl, ?_, rfl, fun R hR => hR⟩⟩
  · unfold bQ; rw [e]; rfl
  · unfold bS; rw [e]; rfl
theorem alwM_se {y u : Nat} {z : Int} : SEq u b (alwM b y z) := ⟨rfl, fun _ => ⟨rfl, rfl, rfl, rfl, fun _ h => h⟩⟩
end XS

/-- what is held, in the shares of a day -/
def bHS (b : Nat → Nat → Int) (v : Nat) (d : Int) : Int := sm (fun k => if bL b v k = true ∧ b 2 k ≤ d then (if b 5 k = 0 then b 3 k * fac (bSD b v) (bSF b v) (bM b v) (b 2 k) d else -(b 3 k * fac (bSD b v) (bSF b v) (bM b v) (b 2 k) d)) else 0) (bN b)
theorem bHS_mul (b : Nat → Nat → Int) (v : Nat) (d : Int) : bHS b v d * fla (bSD b v) (bSF b v) (bM b v) d = bH b v d := by
  unfold bH
  rw [← hsum_eq, Int.mul_comm]
  unfold bHS hsum
  rw [← sm_mul]
  refine sm_congr fun k _ => ?_
  by_cases y : bL b v k = true ∧ b 2 k ≤ d
  · rw [if_pos y, if_pos y]
    have e : fla (bSD b v) (bSF b v) (bM b v) d * (b 3 k * fac (bSD b v) (bSF b v) (bM b v) (b 2 k) d) = bU b v k := by
      rw [Int.mul_comm, Int.mul_assoc, fac_mul y.2]; rfl
    by_cases z : b 5 k = 0
    · rw [if_pos z, if_pos z, e]
    · rw [if_neg z, if_neg z, Int.mul_neg, e]
  · rw [if_neg y, if_neg y, Int.mul_zero]
theorem bHS_div {b : Nat → Nat → Int} (hB : BV b) {v : Nat} (hv : v < 3) (d : Int) : bH b v d / fla (bSD b v) (bSF b v) (bM b v) d = bHS b v d := by
  have h1 := (fla_bd (hB.2.2.1 v hv).2 d).1
  rw [← bHS_mul b v d, Int.mul_ediv_cancel _ (by omega)]
theorem XJ.hs {x b : Nat → Nat → Int} (h : XJ x b) {v : Nat} (hv : v < 3) (d : Int) : sm (fun k => if lvb (x 3) (x 4) (v : Int) k = true ∧ x 5 k ≤ d then (if x 2 k = 0 then x 6 k * fac (sub (embL v) x 2) (sub (embL v) x 3) (bM b v) (x 5 k) d else -(x 6 k * fac (sub (embL v) x 2) (sub (embL v) x 3) (bM b v) (x 5 k) d)) else 0) (bN b) = bHS b v d := by
  refine sm_congr fun k hk => ?_
  obtain ⟨h1, h2, h3, h4, h5, h6⟩ := h.2.2.1 k hk
  rw [h.lv v hk, h2, h3, h5, h.fc hv]
section LGs
variable {b lg : Nat → Nat → Int} {v : Nat}
theorem LG.R (hL : LG b v lg) : lg 4 9 = (lR lg : Int) := hL.2.2.1.1
theorem LG.RN (hB : BV b) (hv : v < 3) (hL : LG b v lg) : RN (lR lg) (lg 5) (bQ b v (lg 5)) (bC b v (lg 5)) (bS b v (lg 5)) (bP b v (lg 5)) := hB.RN hv hL.2.1
theorem LG.len (hB : BV b) (hv : v < 3) (hL : LG b v lg) : (bAA b v (lR lg) (lg 5)).length ≤ 60 := by rw [bAA_len]; exact bMM_len hB hv hL.2.1
/-- a ledger's match, as it is told -/
theorem LG.get (hB : BV b) (hv : v < 3) (hL : LG b v lg) {i : Nat} (hi : i < (bAA b v (lR lg) (lg 5)).length) : ∃ x, (bAA b v (lR lg) (lg 5))[i]? = some x ∧ x.1 < lR lg ∧ -1 ≤ x.2.1 ∧ x.2.1 < lR lg ∧ lg 15 i = x.2.2.1 ∧ lg 16 i = lg 5 x.1 ∧ lg 17 i = bD (lg 5) x.2.1 ∧ lg 18 i = x.2.2.2.1 ∧ lg 19 i = mco x ∧ lg 20 i = mpr x := by
  obtain ⟨x, hx⟩ : ∃ x, (bAA b v (lR lg) (lg 5))[i]? = some x := ⟨_, List.getElem?_eq_getElem hi⟩
  obtain ⟨h1, h2, h3, h4, h5, h6⟩ := hL.2.2.2.1.2 i _ hx
  have hm : x ∈ bMM b v (lR lg) (lg 5) := by
    have h7 := List.mem_of_getElem? hx
    rw [bAA_srt] at h7
    have : ∀ (M : List MTup) (k : Nat) (x : MTup), x ∈ srt M k → x ∈ M := by
      intro M k
      induction k with
      | zero => intro x h; cases h
      | succ k ih =>
        intro x h
        rcases List.mem_append.mp h with h | h
        · exact ih x h
        · exact (List.mem_filter.mp h).1
    exact this _ _ _ h7
  obtain ⟨g1, g2, g3, -, -⟩ := bMM_ok hB hv hL.2.1 hm
  exact ⟨_, hx, g1, g2, g3, h1, h2, h3, h4, h5, h6⟩
theorem sm_lsum {f : Nat → Int} {g : MTup → Int} : ∀ {M : List MTup}, (∀ (i : Nat) (x : MTup), M[i]? = some x → f i = g x) → sm f M.length = lsum g M := by
  intro M h
  have key : ∀ k, k ≤ M.length → sm f k = lsum g (M.take k) := by
    intro k
    induction k with
    | zero => intro _; rw [List.take_zero]; rfl
    | succ k ih =>
      intro hk
      have hx : M[k]? = some (M[k]'(by omega)) := List.getElem?_eq_getElem (by omega)
      rw [sm_succ, ih (by omega), lsum_take hx, h k _ hx]
  rw [key _ (Nat.le_refl _), List.take_length]
theorem LG.sum (hL : LG b v lg) {f : Nat → Int} {g : MTup → Int} (h : ∀ (i : Nat) (x : MTup), (bAA b v (lR lg) (lg 5))[i]? = some x → f i = g x) : sm f (bAA b v (lR lg) (lg 5)).length = lsum g (bMM b v (lR lg) (lg 5)) := by
  rw [sm_lsum h]; exact (made_sum g).symm
end LGs
