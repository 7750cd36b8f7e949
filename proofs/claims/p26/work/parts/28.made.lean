-- the reference's list of what it made
def addQ (st : Nat → Nat → Int) (M : Nat) (k : Int) (m how u c p : Int) : Nat → Nat → Int :=
  stC (stC (stC (stC (stC (stC (stC st 20 (fnU (st 20) M k)) 21 (fnU (st 21) M m)) 22 (fnU (st 22) M how)) 23 (fnU (st 23) M u)) 24 (fnU (st 24) M c)) 25 (fnU (st 25) M p)) 0 (fnU (st 0) 22 ((M : Int) + 1))
def addP (st : Nat → Nat → Int) (M k m : Nat) (how u c p : Int) : Nat → Nat → Int :=
  stC (stC (addQ st M k m how u c p) 16 (fnU (st 16) m (st 16 m - u))) 17 (fnU (st 17) k (st 17 k - u))
def AM (st : Nat → Nat → Int) (l : List MTup) : Prop := st 0 22 = l.length ∧ ∀ i x, l[i]? = some x → st 20 i = (x.1 : Int) ∧ st 21 i = x.2.1 ∧ st 22 i = x.2.2.1 ∧ st 23 i = x.2.2.2.1 ∧ st 24 i = x.2.2.2.2.1 ∧ st 25 i = x.2.2.2.2.2
theorem AM.fr {st st1 : Nat → Nat → Int} {l : List MTup} {S : List Nat} (h : AM st l) (hf : Fr S st st1) (h0 : st1 0 22 = st 0 22) (hS : ∀ k, k ∈ S → k < 20 ∨ 25 < k) : AM st1 l := by
  have e : ∀ k, 20 ≤ k → k ≤ 25 → st1 k = st k := fun k h1 h2 => hf k (fun z => by have := hS k z; omega)
  refine ⟨by rw [h0]; exact h.1, fun i x hx => ?_⟩
  rw [e 20 (by omega) (by omega), e 21 (by omega) (by omega), e 22 (by omega) (by omega), e 23 (by omega) (by omega), e 24 (by omega) (by omega), e 25 (by omega) (by omega)]
  exact h.2 i x hx
theorem addQ_at (st : Nat → Nat → Int) (M : Nat) (k m how u c p : Int) (i : Nat) : addQ st M k m how u c p 20 i = fnU (st 20) M k i ∧ addQ st M k m how u c p 21 i = fnU (st 21) M m i ∧ addQ st M k m how u c p 22 i = fnU (st 22) M how i ∧ addQ st M k m how u c p 23 i = fnU (st 23) M u i ∧ addQ st M k m how u c p 24 i = fnU (st 24) M c i ∧ addQ st M k m how u c p 25 i = fnU (st 25) M p i ∧ addQ st M k m how u c p 0 i = fnU (st 0) 22 ((M : Int) + 1) i := ⟨rfl, rfl, rfl, rfl, rfl, rfl, rfl⟩
theorem addQ_fr (st : Nat → Nat → Int) (M : Nat) (k m how u c p : Int) : Fr [0, 20, 21, 22, 23, 24, 25] st (addQ st M k m how u c p) := by
  intro j hj
  simp only [List.mem_cons, List.not_mem_nil, or_false, not_or] at hj
  unfold addQ
  rw [stC_ne (by omega), stC_ne (by omega), stC_ne (by omega), stC_ne (by omega), stC_ne (by omega), stC_ne (by omega), stC_ne (by omega)]
theorem AM.addQ {st : Nat → Nat → Int} {l : List MTup} (h : AM st l) (x : MTup) {k m how u c p : Int} (h1 : k = (x.1 : Int)) (h2 : m = x.2.1) (h3 : how = x.2.2.1) (h4 : u = x.2.2.2.1) (h5 : c = x.2.2.2.2.1) (h6 : p = x.2.2.2.2.2) : AM (addQ st l.length k m how u c p) (l ++ [x]) := by
  refine ⟨?_, fun i y hy => ?_⟩
  · rw [(addQ_at st l.length k m how u c p 22).2.2.2.2.2.2, fnU_eq, List.length_append, List.length_singleton]; push_cast; rfl
  · obtain ⟨a1, a2, a3, a4, a5, a6, -⟩ := addQ_at st l.length k m how u c p i
    rw [a1, a2, a3, a4, a5, a6]
    rcases Nat.lt_or_ge i l.length with q | q
    · rw [List.getElem?_append_left q] at hy
      rw [fnU_ne (by omega), fnU_ne (by omega), fnU_ne (by omega), fnU_ne (by omega), fnU_ne (by omega), fnU_ne (by omega)]
      exact h.2 i y hy
    · have hi : i < (l ++ [x]).length := (List.getElem?_eq_some_iff.mp hy).1
      rw [List.length_append, List.length_singleton] at hi
      have e : i = l.length := by omega
      subst e
      rw [List.getElem?_append_right (Nat.le_refl _), Nat.sub_self] at hy
      cases hy
      rw [fnU_eq, fnU_eq, fnU_eq, fnU_eq, fnU_eq, fnU_eq]
      exact ⟨h1, h2, h3, h4, h5, h6⟩
theorem addP_fr (st : Nat → Nat → Int) (M k m : Nat) (how u c p : Int) : Fr [0, 16, 17, 20, 21, 22, 23, 24, 25] st (addP st M k m how u c p) :=
  (((addQ_fr st M k m how u c p).up (T := [0, 16, 17, 20, 21, 22, 23, 24, 25]) (by decide)).st (by decide)).st (by decide)
theorem addP_at (st : Nat → Nat → Int) (M k m : Nat) (how u c p : Int) : addP st M k m how u c p 16 = fnU (st 16) m (st 16 m - u) ∧ addP st M k m how u c p 17 = fnU (st 17) k (st 17 k - u) ∧ addP st M k m how u c p 0 = fnU (st 0) 22 ((M : Int) + 1) := ⟨rfl, rfl, rfl⟩
theorem AM.addP {st : Nat → Nat → Int} {l : List MTup} (h : AM st l) (x : MTup) {k m : Nat} {how u c p : Int} (h1 : k = x.1) (h2 : (m : Int) = x.2.1) (h3 : how = x.2.2.1) (h4 : u = x.2.2.2.1) (h5 : c = x.2.2.2.2.1) (h6 : p = x.2.2.2.2.2) : AM (addP st l.length k m how u c p) (l ++ [x]) :=
  (h.addQ x (by rw [h1]) h2 h3 h4 h5 h6).fr (S := [16, 17]) ((Fr.rf.st (by decide)).st (by decide)) rfl (by decide)
section MP
variable {D b s c p : Nat → Int} {w : Int} {R : Nat}
theorem mSs_pre (k q : Nat) (h : k ≤ q) : (mSs b s c p k).length ≤ (mSs b s c p q).length := by
  induction q with
  | zero => rw [show k = 0 by omega]; exact Nat.le_refl _
  | succ q ih =>
    rcases Nat.lt_or_ge k (q + 1) with z | z
    · have := ih (by omega); simp only [mSs, List.length_append]; omega
    · rw [show k = q + 1 by omega]; exact Nat.le_refl _
theorem mLL_pre (k q : Nat) (h : k ≤ q) : (mLL D b s c p w R k).length ≤ (mLL D b s c p w R q).length := by
  induction q with
  | zero => rw [show k = 0 by omega]; exact Nat.le_refl _
  | succ q ih =>
    rcases Nat.lt_or_ge k (q + 1) with z | z
    · have := ih (by omega); simp only [mLL, List.length_append]; omega
    · rw [show k = q + 1 by omega]; exact Nat.le_refl _
theorem mPP_pre (k q : Nat) (h : k ≤ q) : (mPP D b s c p w R k).length ≤ (mPP D b s c p w R q).length := by
  induction q with
  | zero => rw [show k = 0 by omega]; exact Nat.le_refl _
  | succ q ih =>
    rcases Nat.lt_or_ge k (q + 1) with z | z
    · have := ih (by omega); simp only [mPP, List.length_append]; omega
    · rw [show k = q + 1 by omega]; exact Nat.le_refl _
theorem RN.made {fD fb fc fs fp : Nat → Int} (h : RN R fD fb fc fs fp) : (mMade fD fb fs fc fp w R).length ≤ 60 := by
  obtain ⟨hR6, hso, hDr, hb0, hs0, hc0, hp0, hh0, hnz, -⟩ := h
  rw [made_len]
  exact Nat.le_trans (mAll_le (fun i => (hb0 i).1) (fun i => (hs0 i).1)) hnz
end MP
/-- what the reference holds behind its reckoning -/
def MOK (R : Nat) (fD fb fc fs fp : Nat → Int) (wd : Int) (st : Nat → Nat → Int) : Prop :=
  st 0 12 = R ∧ (∀ r, r < R → st 11 r = fD r ∧ st 18 r = pU fD fb fs wd R (r + 1) ∧ st 19 r = pC fD fb fs fc wd R (r + 1)) ∧ AM st (mMade fD fb fs fc fp wd R)
