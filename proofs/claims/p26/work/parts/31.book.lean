-- the reference's memory as a book: its numbers, and what no question changes
def bN (st : Nat → Nat → Int) : Nat := (st 0 0).toNat
def bM (st : Nat → Nat → Int) (v : Nat) : Nat := (st 7 v).toNat
def bL (st : Nat → Nat → Int) (v : Nat) : Nat → Bool := lvb (st 6) (st 1) (v : Int)
def bSD (st : Nat → Nat → Int) (v : Nat) : Nat → Int := fun i => st 8 (4 * v + i)
def bSF (st : Nat → Nat → Int) (v : Nat) : Nat → Int := fun i => st 9 (4 * v + i)
def bU (st : Nat → Nat → Int) (v : Nat) : Nat → Int := uni (st 3) (st 2) (bSD st v) (bSF st v) (bM st v)
def bH (st : Nat → Nat → Int) (v : Nat) (d : Int) : Int := hold (bL st v) (st 5) (st 2) (bU st v) (bN st) d
def bQ (st : Nat → Nat → Int) (v : Nat) (D : Nat → Int) : Nat → Int := qB (bL st v) (st 5) (st 2) (bU st v) (bN st) D
def bC (st : Nat → Nat → Int) (v : Nat) (D : Nat → Int) : Nat → Int := qB (bL st v) (st 5) (st 2) (st 4) (bN st) D
def bS (st : Nat → Nat → Int) (v : Nat) (D : Nat → Int) : Nat → Int := qS (bL st v) (st 5) (st 2) (bU st v) (bN st) D
def bP (st : Nat → Nat → Int) (v : Nat) (D : Nat → Int) : Nat → Int := qS (bL st v) (st 5) (st 2) (st 4) (bN st) D
def bRow (st : Nat → Nat → Int) (v R : Nat) (D : Nat → Int) : Prop := IsR (bL st v) (st 2) (bN st) R D
def bMM (st : Nat → Nat → Int) (v R : Nat) (D : Nat → Int) : List MTup := mMade D (bQ st v D) (bS st v D) (bC st v D) (bP st v D) (st 0 11) R
def bAA (st : Nat → Nat → Int) (v R : Nat) (D : Nat → Int) : List MTup := mAll D (bQ st v D) (bS st v D) (bC st v D) (bP st v D) (st 0 11) R R
def bPU (st : Nat → Nat → Int) (v R : Nat) (D : Nat → Int) (q : Nat) : Int := pU D (bQ st v D) (bS st v D) (st 0 11) R q
def bPC (st : Nat → Nat → Int) (v R : Nat) (D : Nat → Int) (q : Nat) : Int := pC D (bQ st v D) (bS st v D) (bC st v D) (st 0 11) R q
def BV (st : Nat → Nat → Int) : Prop := st 0 0 = (bN st : Int) ∧ JV (st 5) (st 6) (st 1) (st 2) (st 3) (st 4) (bN st) ∧ (∀ v, v < 3 → st 7 v = (bM st v : Int) ∧ SPV (bSD st v) (bSF st v) (bM st v)) ∧ (0 ≤ st 0 11 ∧ st 0 11 ≤ 60) ∧ (∀ v, v < 3 → ∀ d, 0 ≤ bH st v d) ∧ ∀ y, y < 5 → 0 ≤ st 10 y ∧ st 10 y ≤ 1000000
def MW (st st1 : Nat → Nat → Int) : Prop := (∀ k, 1 ≤ k → k ≤ 10 → st1 k = st k) ∧ st1 0 0 = st 0 0 ∧ st1 0 11 = st 0 11
section MWs
variable {st st1 st2 : Nat → Nat → Int}
theorem MW.rf : MW st st := ⟨fun _ _ _ => rfl, rfl, rfl⟩
theorem MW.tr (h : MW st st1) (h2 : MW st1 st2) : MW st st2 := ⟨fun k a b => (h2.1 k a b).trans (h.1 k a b), h2.2.1.trans h.2.1, h2.2.2.trans h.2.2⟩
theorem MW.thr (st : Nat → Nat → Int) (x : Int) : MW st (stC st 0 (fnU (st 0) 29 x)) := ⟨fun k a b => stC_ne (by omega), rfl, rfl⟩
theorem MW.of {S : List Nat} (hf : Fr S st st1) (hS : ∀ k, k ∈ S → k = 0 ∨ 10 < k) (h0 : st1 0 0 = st 0 0) (h1 : st1 0 11 = st 0 11) : MW st st1 := ⟨fun k a b => hf k (fun z => by have := hS k z; omega), h0, h1⟩
theorem MW.sy (h : MW st st1) : MW st1 st := ⟨fun k a b => (h.1 k a b).symm, h.2.1.symm, h.2.2.symm⟩
theorem MW.N (h : MW st st1) : bN st1 = bN st := by unfold bN; rw [h.2.1]
theorem MW.M (h : MW st st1) (v : Nat) : bM st1 v = bM st v := by unfold bM; rw [h.1 7 (by omega) (by omega)]
theorem MW.L (h : MW st st1) (v : Nat) : bL st1 v = bL st v := by unfold bL; rw [h.1 6 (by omega) (by omega), h.1 1 (by omega) (by omega)]
theorem MW.SD (h : MW st st1) (v : Nat) : bSD st1 v = bSD st v := by unfold bSD; rw [h.1 8 (by omega) (by omega)]
theorem MW.SF (h : MW st st1) (v : Nat) : bSF st1 v = bSF st v := by unfold bSF; rw [h.1 9 (by omega) (by omega)]
theorem MW.U (h : MW st st1) (v : Nat) : bU st1 v = bU st v := by unfold bU; rw [h.1 3 (by omega) (by omega), h.1 2 (by omega) (by omega), h.SD, h.SF, h.M]
theorem MW.H (h : MW st st1) (v : Nat) (d : Int) : bH st1 v d = bH st v d := by unfold bH; rw [h.L, h.U, h.N, h.1 5 (by omega) (by omega), h.1 2 (by omega) (by omega)]
theorem MW.Q (h : MW st st1) (v : Nat) (D : Nat → Int) : bQ st1 v D = bQ st v D := by unfold bQ; rw [h.L, h.U, h.N, h.1 5 (by omega) (by omega), h.1 2 (by omega) (by omega)]
theorem MW.C (h : MW st st1) (v : Nat) (D : Nat → Int) : bC st1 v D = bC st v D := by unfold bC; rw [h.L, h.N, h.1 4 (by omega) (by omega), h.1 5 (by omega) (by omega), h.1 2 (by omega) (by omega)]
theorem MW.S (h : MW st st1) (v : Nat) (D : Nat → Int) : bS st1 v D = bS st v D := by unfold bS; rw [h.L, h.U, h.N, h.1 5 (by omega) (by omega), h.1 2 (by omega) (by omega)]
theorem MW.P (h : MW st st1) (v : Nat) (D : Nat → Int) : bP st1 v D = bP st v D := by unfold bP; rw [h.L, h.N, h.1 4 (by omega) (by omega), h.1 5 (by omega) (by omega), h.1 2 (by omega) (by omega)]
theorem MW.row (h : MW st st1) {v R : Nat} {D : Nat → Int} (hR : bRow st v R D) : bRow st1 v R D := by unfold bRow; rw [h.L, h.N, h.1 2 (by omega) (by omega)]; exact hR
theorem MW.MM (h : MW st st1) (v R : Nat) (D : Nat → Int) : bMM st1 v R D = bMM st v R D := by unfold bMM; rw [h.Q, h.S, h.C, h.P, h.2.2]
theorem MW.AA (h : MW st st1) (v R : Nat) (D : Nat → Int) : bAA st1 v R D = bAA st v R D := by unfold bAA; rw [h.Q, h.S, h.C, h.P, h.2.2]
theorem MW.PU (h : MW st st1) (v R : Nat) (D : Nat → Int) (q : Nat) : bPU st1 v R D q = bPU st v R D q := by unfold bPU; rw [h.Q, h.S, h.2.2]
theorem MW.PC (h : MW st st1) (v R : Nat) (D : Nat → Int) (q : Nat) : bPC st1 v R D q = bPC st v R D q := by unfold bPC; rw [h.Q, h.S, h.C, h.2.2]
theorem BV.mw (hB : BV st) (h : MW st st1) : BV st1 := by
  unfold BV
  rw [h.N, h.2.1, h.2.2, h.1 1 (by omega) (by omega), h.1 2 (by omega) (by omega), h.1 3 (by omega) (by omega), h.1 4 (by omega) (by omega), h.1 5 (by omega) (by omega), h.1 6 (by omega) (by omega), h.1 7 (by omega) (by omega), h.1 10 (by omega) (by omega)]
  refine ⟨hB.1, hB.2.1, fun v hv => ?_, hB.2.2.2.1, fun v hv d => ?_, hB.2.2.2.2.2⟩
  · rw [h.M, h.SD, h.SF]; exact hB.2.2.1 v hv
  · rw [h.H]; exact hB.2.2.2.2.1 v hv d
theorem BV.n60 (hB : BV st) : bN st ≤ 60 := hB.2.1.1
theorem BV.RN {v R : Nat} {D : Nat → Int} (hB : BV st) (hv : v < 3) (hI : bRow st v R D) : RN R D (bQ st v D) (bC st v D) (bS st v D) (bP st v D) :=
  RN_of hB.2.1 (hB.2.2.1 v hv).2 hI (hB.2.2.2.2.1 v hv)
theorem bMM_len {v R : Nat} {D : Nat → Int} (hB : BV st) (hv : v < 3) (hI : bRow st v R D) : (bMM st v R D).length ≤ 60 := (hB.RN hv hI).made
end MWs
/-- the rows up to a day -/
def cutR (D : Nat → Int) (R : Nat) (d : Int) (q : Nat) : Prop := q ≤ R ∧ (∀ r, r < q → D r ≤ d) ∧ ∀ r, q ≤ r → r < R → d < D r
theorem cutR.uniq {D : Nat → Int} {R : Nat} {d : Int} {q q' : Nat} (h : cutR D R d q) (h' : cutR D R d q') : q = q' := by
  rcases Nat.lt_trichotomy q q' with x | x | x
  · have h1 := h'.2.1 q x; have h2 := h.2.2 q (Nat.le_refl _) (by have := h'.1; omega); omega
  · exact x
  · have h1 := h.2.1 q' x; have h2 := h'.2.2 q' (Nat.le_refl _) (by have := h.1; omega); omega
