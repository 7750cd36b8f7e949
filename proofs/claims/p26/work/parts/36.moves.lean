-- two books that say the same
def BEq (a b : Nat → Nat → Int) : Prop := a 0 0 = b 0 0 ∧ a 0 11 = b 0 11 ∧ (∀ k, k < bN a → a 1 k = b 1 k ∧ a 2 k = b 2 k ∧ a 3 k = b 3 k ∧ a 4 k = b 4 k ∧ a 5 k = b 5 k ∧ a 6 k = b 6 k) ∧ (∀ v, v < 3 → a 7 v = b 7 v ∧ ∀ i, i < bM a v → a 8 (4 * v + i) = b 8 (4 * v + i) ∧ a 9 (4 * v + i) = b 9 (4 * v + i)) ∧ ∀ y, y < 5 → a 10 y = b 10 y
theorem wsum_cg {L L' : Nat → Bool} {dy dy' w w' : Nat → Int} {n : Nat} {d : Int} (h : ∀ k, k < n → L k = L' k ∧ dy k = dy' k ∧ w k = w' k) : wsum L dy w n d = wsum L' dy' w' n d :=
  sm_congr fun k hk => by obtain ⟨h1, h2, h3⟩ := h k hk; rw [h1, h2, h3]
theorem wupto_cg {L L' : Nat → Bool} {dy dy' w w' : Nat → Int} {n : Nat} {d : Int} (h : ∀ k, k < n → L k = L' k ∧ dy k = dy' k ∧ w k = w' k) : wupto L dy w n d = wupto L' dy' w' n d :=
  sm_congr fun k hk => by obtain ⟨h1, h2, h3⟩ := h k hk; rw [h1, h2, h3]
theorem IsR.cg {L L' : Nat → Bool} {dy dy' : Nat → Int} {n R : Nat} {D : Nat → Int} (h : ∀ k, k < n → L k = L' k ∧ dy k = dy' k) (hR : IsR L dy n R D) : IsR L' dy' n R D := by
  obtain ⟨h1, h2, h3⟩ := hR
  refine ⟨fun r hr => ?_, fun k hk hL => ?_, h3⟩
  · obtain ⟨k, a, b, e⟩ := h1 r hr
    exact ⟨k, a, by rw [← (h k a).1]; exact b, by rw [← (h k a).2]; exact e⟩
  · obtain ⟨r, a, e⟩ := h2 k hk (by rw [(h k hk).1]; exact hL)
    exact ⟨r, a, by rw [e]; exact (h k hk).2⟩
section BE
variable {a b c : Nat → Nat → Int}
theorem BEq.N (h : BEq a b) : bN b = bN a := by unfold bN; rw [h.1]
theorem BEq.M (h : BEq a b) {v : Nat} (hv : v < 3) : bM b v = bM a v := by unfold bM; rw [(h.2.2.2.1 v hv).1]
theorem BEq.rf : BEq a a := ⟨rfl, rfl, fun _ _ => ⟨rfl, rfl, rfl, rfl, rfl, rfl⟩, fun _ _ => ⟨rfl, fun _ _ => ⟨rfl, rfl⟩⟩, fun _ _ => rfl⟩
theorem BEq.sy (h : BEq a b) : BEq b a :=
  ⟨h.1.symm, h.2.1.symm, fun k hk => by obtain ⟨h1, h2, h3, h4, h5, h6⟩ := h.2.2.1 k (by rw [← h.N]; exact hk); exact ⟨h1.symm, h2.symm, h3.symm, h4.symm, h5.symm, h6.symm⟩,
   fun v hv => ⟨(h.2.2.2.1 v hv).1.symm, fun i hi => by obtain ⟨h1, h2⟩ := (h.2.2.2.1 v hv).2 i (by rw [← h.M hv]; exact hi); exact ⟨h1.symm, h2.symm⟩⟩, fun y hy => (h.2.2.2.2 y hy).symm⟩
theorem BEq.tr (h : BEq a b) (g : BEq b c) : BEq a c :=
  ⟨h.1.trans g.1, h.2.1.trans g.2.1, fun k hk => by
    obtain ⟨h1, h2, h3, h4, h5, h6⟩ := h.2.2.1 k hk
    obtain ⟨g1, g2, g3, g4, g5, g6⟩ := g.2.2.1 k (by rw [h.N]; exact hk)
    exact ⟨h1.trans g1, h2.trans g2, h3.trans g3, h4.trans g4, h5.trans g5, h6.trans g6⟩,
   fun v hv => ⟨(h.2.2.2.1 v hv).1.trans (g.2.2.2.1 v hv).1, fun i hi => by
    obtain ⟨h1, h2⟩ := (h.2.2.2.1 v hv).2 i hi
    obtain ⟨g1, g2⟩ := (g.2.2.2.1 v hv).2 i (by rw [h.M hv]; exact hi)
    exact ⟨h1.trans g1, h2.trans g2⟩⟩, fun y hy => (h.2.2.2.2 y hy).trans (g.2.2.2.2 y hy)⟩
theorem MW.be (h : MW a b) : BEq a b :=
  ⟨h.2.1.symm, h.2.2.symm, fun k _ => by rw [h.1 1 (by omega) (by omega), h.1 2 (by omega) (by omega), h.1 3 (by omega) (by omega), h.1 4 (by omega) (by omega), h.1 5 (by omega) (by omega), h.1 6 (by omega) (by omega)]; exact ⟨rfl, rfl, rfl, rfl, rfl, rfl⟩,
   fun v _ => ⟨by rw [h.1 7 (by omega) (by omega)], fun i _ => by rw [h.1 8 (by omega) (by omega), h.1 9 (by omega) (by omega)]; exact ⟨rfl, rfl⟩⟩, fun y _ => by rw [h.1 10 (by omega) (by omega)]⟩
theorem BEq.L (h : BEq a b) (v : Nat) {k : Nat} (hk : k < bN a) : bL b v k = bL a v k := by
  obtain ⟨h1, h2, h3, h4, h5, h6⟩ := h.2.2.1 k hk
  unfold bL lvb; rw [h1, h6]
theorem BEq.fla (h : BEq a b) {v : Nat} (hv : v < 3) (d : Int) : fla (bSD b v) (bSF b v) (bM b v) d = fla (bSD a v) (bSF a v) (bM a v) d := by
  rw [h.M hv]
  refine pd_congr fun i hi => ?_
  obtain ⟨h1, h2⟩ := (h.2.2.2.1 v hv).2 i hi
  unfold bSD bSF; rw [h1, h2]
theorem BEq.fac (h : BEq a b) {v : Nat} (hv : v < 3) (d e : Int) : fac (bSD b v) (bSF b v) (bM b v) d e = fac (bSD a v) (bSF a v) (bM a v) d e := by
  rw [h.M hv]
  refine pd_congr fun i hi => ?_
  obtain ⟨h1, h2⟩ := (h.2.2.2.1 v hv).2 i hi
  unfold bSD bSF; rw [h1, h2]
theorem BEq.U (h : BEq a b) {v : Nat} (hv : v < 3) {k : Nat} (hk : k < bN a) : bU b v k = bU a v k := by
  obtain ⟨h1, h2, h3, h4, h5, h6⟩ := h.2.2.1 k hk
  unfold bU uni; rw [h3, h2, h.fla hv]
theorem BEq.H (h : BEq a b) {v : Nat} (hv : v < 3) (d : Int) : bH b v d = bH a v d := by
  unfold bH hold
  rw [h.N]
  congr 1 <;> refine wupto_cg fun k hk => ?_ <;> obtain ⟨h1, h2, h3, h4, h5, h6⟩ := h.2.2.1 k hk
  · exact ⟨h.L v hk, h2.symm, by unfold wB; rw [h5, h.U hv hk]⟩
  · exact ⟨h.L v hk, h2.symm, by unfold wS; rw [h5, h.U hv hk]⟩
theorem BEq.Q (h : BEq a b) {v : Nat} (hv : v < 3) (D : Nat → Int) : bQ b v D = bQ a v D := by
  funext r; unfold bQ qB; rw [h.N]
  refine wsum_cg fun k hk => ?_
  obtain ⟨h1, h2, h3, h4, h5, h6⟩ := h.2.2.1 k hk
  exact ⟨h.L v hk, h2.symm, by unfold wB; rw [h5, h.U hv hk]⟩
theorem BEq.S (h : BEq a b) {v : Nat} (hv : v < 3) (D : Nat → Int) : bS b v D = bS a v D := by
  funext r; unfold bS qS; rw [h.N]
  refine wsum_cg fun k hk => ?_
  obtain ⟨h1, h2, h3, h4, h5, h6⟩ := h.2.2.1 k hk
  exact ⟨h.L v hk, h2.symm, by unfold wS; rw [h5, h.U hv hk]⟩
theorem BEq.C (h : BEq a b) {v : Nat} (hv : v < 3) (D : Nat → Int) : bC b v D = bC a v D := by
  funext r; unfold bC qB; rw [h.N]
  refine wsum_cg fun k hk => ?_
  obtain ⟨h1, h2, h3, h4, h5, h6⟩ := h.2.2.1 k hk
  exact ⟨h.L v hk, h2.symm, by unfold wB; rw [h5, h4]⟩
theorem BEq.P (h : BEq a b) {v : Nat} (hv : v < 3) (D : Nat → Int) : bP b v D = bP a v D := by
  funext r; unfold bP qS; rw [h.N]
  refine wsum_cg fun k hk => ?_
  obtain ⟨h1, h2, h3, h4, h5, h6⟩ := h.2.2.1 k hk
  exact ⟨h.L v hk, h2.symm, by unfold wS; rw [h5, h4]⟩
theorem BEq.row (h : BEq a b) {v R : Nat} {D : Nat → Int} (hR : bRow a v R D) : bRow b v R D := by
  unfold bRow; rw [h.N]
  exact hR.cg fun k hk => ⟨(h.L v hk).symm, (h.2.2.1 k hk).2.1⟩
theorem BEq.MM (h : BEq a b) {v : Nat} (hv : v < 3) (R : Nat) (D : Nat → Int) : bMM b v R D = bMM a v R D := by unfold bMM; rw [h.Q hv, h.S hv, h.C hv, h.P hv, h.2.1]
theorem BEq.AA (h : BEq a b) {v : Nat} (hv : v < 3) (R : Nat) (D : Nat → Int) : bAA b v R D = bAA a v R D := by unfold bAA; rw [h.Q hv, h.S hv, h.C hv, h.P hv, h.2.1]
theorem BEq.PU (h : BEq a b) {v : Nat} (hv : v < 3) (R : Nat) (D : Nat → Int) (q : Nat) : bPU b v R D q = bPU a v R D q := by unfold bPU; rw [h.Q hv, h.S hv, h.2.1]
theorem BEq.PC (h : BEq a b) {v : Nat} (hv : v < 3) (R : Nat) (D : Nat → Int) (q : Nat) : bPC b v R D q = bPC a v R D q := by unfold bPC; rw [h.Q hv, h.S hv, h.C hv, h.2.1]
theorem BEq.cin (h : BEq a b) (v : Nat) : sm (fun k => if bL b v k = true then wB (b 5) (b 4) k else 0) (bN b) = sm (fun k => if bL a v k = true then wB (a 5) (a 4) k else 0) (bN a) := by
  rw [h.N]
  refine sm_congr fun k hk => ?_
  obtain ⟨h1, h2, h3, h4, h5, h6⟩ := h.2.2.1 k hk
  rw [h.L v hk, wB, wB, h5, h4]
theorem BEq.G (h : BEq a b) {RR : Nat → Nat} {DD : Nat → Nat → Int} (y : Int) {v : Nat} (hv : v < 3) : yG b RR DD y v = yG a RR DD y v := by unfold yG; rw [h.MM hv]
theorem BEq.ny (h : BEq a b) {RR : Nat → Nat} {DD : Nat → Nat → Int} (y : Int) : yN b RR DD y = yN a RR DD y := by unfold yN; rw [h.G y (by omega), h.G y (by omega), h.G y (by omega)]
theorem BEq.A (h : BEq a b) {RR : Nat → Nat} {DD : Nat → Nat → Int} {y : Nat} (hy : y < 5) : yA b RR DD y = yA a RR DD y := by unfold yA; rw [h.ny, h.2.2.2.2 y hy]
theorem BEq.ly (h : BEq a b) {RR : Nat → Nat} {DD : Nat → Nat → Int} : ∀ y, y ≤ 5 → yL b RR DD y = yL a RR DD y := by
  intro y
  induction y with
  | zero => intro _; rfl
  | succ y ih => intro hy; rw [yL, yL, ih (by omega), h.ny, h.A (by omega)]
/-- a book without its holdings -/
def BJ (st : Nat → Nat → Int) : Prop := st 0 0 = (bN st : Int) ∧ JV (st 5) (st 6) (st 1) (st 2) (st 3) (st 4) (bN st) ∧ (∀ v, v < 3 → st 7 v = (bM st v : Int) ∧ SPV (bSD st v) (bSF st v) (bM st v)) ∧ (0 ≤ st 0 11 ∧ st 0 11 ≤ 60) ∧ ∀ y, y < 5 → 0 ≤ st 10 y ∧ st 10 y ≤ 1000000
theorem BV.j (h : BV a) : BJ a := ⟨h.1, h.2.1, h.2.2.1, h.2.2.2.1, h.2.2.2.2.2⟩
theorem BJ.v (h : BJ a) (hh : ∀ v, v < 3 → ∀ d, 0 ≤ bH a v d) : BV a := ⟨h.1, h.2.1, h.2.2.1, h.2.2.2.1, hh, h.2.2.2.2⟩
theorem BJ.be (hB : BJ a) (h : BEq a b) : BJ b := by
  unfold BJ
  rw [h.N, ← h.1, ← h.2.1]
  refine ⟨hB.1, ⟨hB.2.1.1, fun k hk => ?_⟩, fun v hv => ?_, hB.2.2.2.1, fun y hy => ?_⟩
  · obtain ⟨h1, h2, h3, h4, h5, h6⟩ := h.2.2.1 k hk
    rw [← h1, ← h2, ← h3, ← h4, ← h5, ← h6]; exact hB.2.1.2 k hk
  · rw [h.M hv, ← (h.2.2.2.1 v hv).1]
    refine ⟨(hB.2.2.1 v hv).1, (hB.2.2.1 v hv).2.1, fun i hi => ?_⟩
    have h1 := (h.2.2.2.1 v hv).2 i hi
    have h2 := (hB.2.2.1 v hv).2.2 i hi
    unfold bSD bSF at *
    rw [← h1.1, ← h1.2]; exact h2
  · rw [← h.2.2.2.2 y hy]; exact hB.2.2.2.2 y hy
theorem BV.be (hB : BV a) (h : BEq a b) : BV b := (hB.j.be h).v fun v hv d => by rw [h.H hv]; exact hB.2.2.2.2.1 v hv d
end BE
-- the moves
def entM (st : Nat → Nat → Int) (v d ct mo sa : Int) : Nat → Nat → Int :=
  stC (stC (stC (stC (stC (stC (stC st 1 (fnU (st 1) (bN st) v)) 2 (fnU (st 2) (bN st) d)) 3 (fnU (st 3) (bN st) ct)) 4 (fnU (st 4) (bN st) mo)) 5 (fnU (st 5) (bN st) sa)) 6 (fnU (st 6) (bN st) 0)) 0 (fnU (st 0) 0 ((bN st : Int) + 1))
def splM (st : Nat → Nat → Int) (v : Nat) (d f : Int) : Nat → Nat → Int :=
  stC (stC (stC st 8 (fnU (st 8) (4 * v + bM st v) d)) 9 (fnU (st 9) (4 * v + bM st v) f)) 7 (fnU (st 7) v ((bM st v : Int) + 1))
def canM (st : Nat → Nat → Int) (t : Nat) : Nat → Nat → Int := stC st 6 (fnU (st 6) t 1)
def alwM (st : Nat → Nat → Int) (y : Nat) (x : Int) : Nat → Nat → Int := stC st 10 (fnU (st 10) y x)
def winM (st : Nat → Nat → Int) (x : Int) : Nat → Nat → Int := stC st 0 (fnU (st 0) 11 x)
section MV9
variable {st : Nat → Nat → Int}
theorem entM_N (v d ct mo sa : Int) : bN (entM st v d ct mo sa) = bN st + 1 := by
  have h1 : entM st v d ct mo sa 0 0 = (bN st : Int) + 1 := rfl
  rw [show bN (entM st v d ct mo sa) = (entM st v d ct mo sa 0 0).toNat from rfl, h1]; omega
theorem entM_M (v d ct mo sa : Int) (u : Nat) : bM (entM st v d ct mo sa) u = bM st u := rfl
theorem entM_SD (v d ct mo sa : Int) (u : Nat) : bSD (entM st v d ct mo sa) u = bSD st u := rfl
theorem entM_SF (v d ct mo sa : Int) (u : Nat) : bSF (entM st v d ct mo sa) u = bSF st u := rfl
theorem entM_J {v d ct mo sa : Int} (hB : BJ st) (hn : bN st < 60) (hv : 0 ≤ v ∧ v < 3) (hd : 0 ≤ d ∧ d < 1825) (hc : 1 ≤ ct ∧ ct ≤ 1000) (hm : 0 ≤ mo ∧ mo ≤ 1000000) (hs : sa = 0 ∨ sa = 1) : BJ (entM st v d ct mo sa) := by
  refine ⟨by rw [entM_N]; rfl, ⟨by rw [entM_N]; omega, fun k hk => ?_⟩, fun u hu => ?_, hB.2.2.2.1, hB.2.2.2.2⟩
  · rw [entM_N] at hk
    have e1 : entM st v d ct mo sa 1 = fnU (st 1) (bN st) v := rfl
    have e2 : entM st v d ct mo sa 2 = fnU (st 2) (bN st) d := rfl
    have e3 : entM st v d ct mo sa 3 = fnU (st 3) (bN st) ct := rfl
    have e4 : entM st v d ct mo sa 4 = fnU (st 4) (bN st) mo := rfl
    have e5 : entM st v d ct mo sa 5 = fnU (st 5) (bN st) sa := rfl
    have e6 : entM st v d ct mo sa 6 = fnU (st 6) (bN st) 0 := rfl
    rw [e1, e2, e3, e4, e5, e6]
    by_cases x : k = bN st
    · subst x; simp only [fnU_eq]; exact ⟨hs, Or.inl trivial, hv, hd, hc, hm⟩
    · simp only [fnU_ne x]; exact hB.2.1.2 k (by omega)
  · rw [entM_M, entM_SD, entM_SF]; exact hB.2.2.1 u hu
/-- the holdings with a trade more -/
theorem entM_H {v d ct mo sa : Int} (u : Nat) (e : Int) : bH (entM st v d ct mo sa) u e = bH st u e + (if v = u ∧ d ≤ e then (if sa = 0 then ct * fla (bSD st u) (bSF st u) (bM st u) d else -(ct * fla (bSD st u) (bSF st u) (bM st u) d)) else 0) := by
  have e1 : entM st v d ct mo sa 1 = fnU (st 1) (bN st) v := rfl
  have e2 : entM st v d ct mo sa 2 = fnU (st 2) (bN st) d := rfl
  have e3 : entM st v d ct mo sa 3 = fnU (st 3) (bN st) ct := rfl
  have e5 : entM st v d ct mo sa 5 = fnU (st 5) (bN st) sa := rfl
  have e6 : entM st v d ct mo sa 6 = fnU (st 6) (bN st) 0 := rfl
  have hL : bL (entM st v d ct mo sa) u (bN st) = decide (v = u) := by
    unfold bL lvb; rw [e1, e6, fnU_eq, fnU_eq]; simp
  have hU : bU (entM st v d ct mo sa) u (bN st) = ct * fla (bSD st u) (bSF st u) (bM st u) d := by
    unfold bU uni; rw [e3, e2, fnU_eq, fnU_eq, entM_M, entM_SD, entM_SF]
  have hlo : ∀ k, k < bN st → bL (entM st v d ct mo sa) u k = bL st u k ∧ entM st v d ct mo sa 2 k = st 2 k ∧ bU (entM st v d ct mo sa) u k = bU st u k ∧ entM st v d ct mo sa 5 k = st 5 k := fun k hk => by
    have x : k ≠ bN st := by omega
    refine ⟨by unfold bL lvb; rw [e1, e6, fnU_ne x, fnU_ne x], by rw [e2, fnU_ne x], ?_, by rw [e5, fnU_ne x]⟩
    unfold bU uni; rw [e3, e2, fnU_ne x, fnU_ne x, entM_M, entM_SD, entM_SF]
  unfold bH
  rw [← hsum_eq, ← hsum_eq, entM_N]
  unfold hsum
  rw [sm_succ]
  congr 1
  · refine sm_congr fun k hk => ?_
    obtain ⟨h1, h2, h3, h4⟩ := hlo k hk
    rw [h1, h2, h3, h4]
  · rw [hL, e2, e5, fnU_eq, fnU_eq, hU]; simp only [decide_eq_true_eq]
theorem canM_J {t : Nat} (hB : BJ st) : BJ (canM st t) := by
  refine ⟨hB.1, ⟨hB.2.1.1, fun k hk => ?_⟩, hB.2.2.1, hB.2.2.2.1, hB.2.2.2.2⟩
  obtain ⟨h1, h2, h3⟩ := hB.2.1.2 k hk
  refine ⟨h1, ?_, h3⟩
  show fnU (st 6) t 1 k = 0 ∨ fnU (st 6) t 1 k = 1
  by_cases x : k = t
  · rw [x, fnU_eq]; exact Or.inr rfl
  · rw [fnU_ne x]; exact h2
/-- the holdings without a trade -/
theorem canM_H {t : Nat} (ht : t < bN st) (hg : st 6 t = 0) (u : Nat) (e : Int) : bH (canM st t) u e = bH st u e - (if st 1 t = u ∧ st 2 t ≤ e then (if st 5 t = 0 then bU st u t else -(bU st u t)) else 0) := by
  have hk6 : canM st t 6 = fnU (st 6) t 1 := rfl
  unfold bH
  rw [← hsum_eq, ← hsum_eq, show bN (canM st t) = bN st from rfl]
  unfold hsum
  have e1 : sm (fun k => (if bL st u k = true ∧ st 2 k ≤ e then (if st 5 k = 0 then bU st u k else -bU st u k) else 0) - (if bL (canM st t) u k = true ∧ st 2 k ≤ e then (if st 5 k = 0 then bU st u k else -bU st u k) else 0)) (bN st) = (if st 1 t = u ∧ st 2 t ≤ e then (if st 5 t = 0 then bU st u t else -(bU st u t)) else 0) := by
    rw [sm_one ht (fun k hk x => ?_)]
    · have h1 : bL (canM st t) u t = false := by unfold bL lvb; rw [hk6, fnU_eq]; simp
      have h2 : bL st u t = decide (st 1 t = u) := by unfold bL lvb; rw [hg]; simp
      rw [h1, h2]; simp only [decide_eq_true_eq]; simp
    · have h1 : bL (canM st t) u k = bL st u k := by unfold bL lvb; rw [hk6, fnU_ne x]; rfl
      rw [h1]; omega
  rw [sm_sub] at e1
  show sm (fun k => if bL (canM st t) u k = true ∧ st 2 k ≤ e then (if st 5 k = 0 then bU st u k else -bU st u k) else 0) (bN st) = _
  omega
theorem splM_M (v : Nat) (d f : Int) : bM (splM st v d f) v = bM st v + 1 := by
  have h1 : splM st v d f 7 v = (bM st v : Int) + 1 := fnU_eq _ _ _
  rw [show bM (splM st v d f) v = (splM st v d f 7 v).toNat from rfl, h1]; omega
theorem splM_M' {v u : Nat} (h : u ≠ v) (d f : Int) : bM (splM st v d f) u = bM st u := by
  have h1 : splM st v d f 7 u = st 7 u := fnU_ne h
  rw [show bM (splM st v d f) u = (splM st v d f 7 u).toNat from rfl, h1]; rfl
theorem splM_J {v : Nat} {d f : Int} (hB : BJ st) (hv : v < 3) (hm : bM st v < 4) (hd : 0 ≤ d ∧ d < 1825) (hf : 2 ≤ f ∧ f ≤ 5) : BJ (splM st v d f) := by
  refine ⟨hB.1, hB.2.1, fun u hu => ?_, hB.2.2.2.1, hB.2.2.2.2⟩
  have e8 : splM st v d f 8 = fnU (st 8) (4 * v + bM st v) d := rfl
  have e9 : splM st v d f 9 = fnU (st 9) (4 * v + bM st v) f := rfl
  have hu4 := (hB.2.2.1 u hu).2.1
  by_cases x : u = v
  · subst x
    rw [splM_M]
    refine ⟨fnU_eq _ _ _, by omega, fun i hi => ?_⟩
    unfold bSD bSF
    rw [e8, e9]
    by_cases y : i = bM st u
    · rw [y, fnU_eq, fnU_eq]; exact ⟨hd, hf⟩
    · rw [fnU_ne (by omega), fnU_ne (by omega)]; exact (hB.2.2.1 u hu).2.2 i (by omega)
  · rw [splM_M' x]
    refine ⟨(fnU_ne x).trans (hB.2.2.1 u hu).1, hu4, fun i hi => ?_⟩
    unfold bSD bSF
    rw [e8, e9, fnU_ne (by omega), fnU_ne (by omega)]; exact (hB.2.2.1 u hu).2.2 i hi
theorem splM_fla {v : Nat} {d f : Int} (hm : bM st v < 4) (u : Nat) (hu : bM st u ≤ 4) (e : Int) : fla (bSD (splM st v d f) u) (bSF (splM st v d f) u) (bM (splM st v d f) u) e = fla (bSD st u) (bSF st u) (bM st u) e * (if u = v ∧ e < d then f else 1) := by
  have e8 : splM st v d f 8 = fnU (st 8) (4 * v + bM st v) d := rfl
  have e9 : splM st v d f 9 = fnU (st 9) (4 * v + bM st v) f := rfl
  by_cases x : u = v
  · subst x
    rw [splM_M]
    unfold fla
    rw [pd_succ]
    congr 1
    · refine pd_congr fun i hi => ?_
      unfold bSD bSF
      rw [e8, e9, fnU_ne (by omega), fnU_ne (by omega)]
    · unfold bSD bSF
      rw [e8, e9, fnU_eq, fnU_eq]
      simp
  · rw [splM_M' x, if_neg (fun h => x h.1), Int.mul_one]
    unfold fla
    refine pd_congr fun i hi => ?_
    unfold bSD bSF
    rw [e8, e9, fnU_ne (by omega), fnU_ne (by omega)]
/-- the holdings with a split more -/
theorem splM_H {v : Nat} {d f : Int} (hm : bM st v < 4) (u : Nat) (hu : bM st u ≤ 4) (e : Int) : bH (splM st v d f) u e = bH st u e + (if u = v then (f - 1) * bH st u (min e (d - 1)) else 0) := by
  have hU : ∀ k, bU (splM st v d f) u k = bU st u k * (if u = v ∧ st 2 k < d then f else 1) := fun k => by
    show st 3 k * fla (bSD (splM st v d f) u) (bSF (splM st v d f) u) (bM (splM st v d f) u) (st 2 k) = _
    rw [splM_fla hm u hu, ← Int.mul_assoc]; rfl
  unfold bH
  rw [← hsum_eq, ← hsum_eq, ← hsum_eq]
  unfold hsum
  by_cases x : u = v
  · rw [if_pos x, ← sm_mul, ← sm_add]
    refine sm_congr fun k hk => ?_
    rw [hU k]
    show (if bL st u k = true ∧ st 2 k ≤ e then (if st 5 k = 0 then bU st u k * _ else -(bU st u k * _)) else 0) = _
    by_cases y : bL st u k = true
    · by_cases z1 : st 2 k ≤ e
      · have p1 : bL st u k = true ∧ st 2 k ≤ e := And.intro y z1
        by_cases z2 : st 2 k < d
        · have p2 : bL st u k = true ∧ st 2 k ≤ min e (d - 1) := And.intro y (by omega)
          have p3 : u = v ∧ st 2 k < d := And.intro x z2
          rw [if_pos p1, if_pos p1, if_pos p2, if_pos p3]
          by_cases s5 : st 5 k = 0
          · rw [if_pos s5, if_pos s5, Int.sub_mul, Int.one_mul, Int.mul_comm (bU st u k) f]; omega
          · rw [if_neg s5, if_neg s5, Int.sub_mul, Int.one_mul, Int.mul_neg, Int.mul_comm (bU st u k) f]; omega
        · have p2 : ¬ (bL st u k = true ∧ st 2 k ≤ min e (d - 1)) := fun h => by have := h.2; omega
          have p3 : ¬ (u = v ∧ st 2 k < d) := fun h => z2 h.2
          rw [if_pos p1, if_pos p1, if_neg p2, if_neg p3, Int.mul_one, Int.mul_zero, Int.add_zero]
      · have p1 : ¬ (bL st u k = true ∧ st 2 k ≤ e) := fun h => z1 h.2
        have p2 : ¬ (bL st u k = true ∧ st 2 k ≤ min e (d - 1)) := fun h => by have := h.2; omega
        rw [if_neg p1, if_neg p1, if_neg p2, Int.mul_zero]; rfl
    · have p1 : ¬ (bL st u k = true ∧ st 2 k ≤ e) := fun h => y h.1
      have p2 : ¬ (bL st u k = true ∧ st 2 k ≤ min e (d - 1)) := fun h => y h.1
      rw [if_neg p1, if_neg p1, if_neg p2, Int.mul_zero]; rfl
  · rw [if_neg x, Int.add_zero]
    refine sm_congr fun k hk => ?_
    rw [hU k, if_neg (show ¬ (u = v ∧ st 2 k < d) from fun h => x h.1), Int.mul_one]; rfl
end MV9
