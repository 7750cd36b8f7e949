-- one ledger after another
section ST4
variable {x b lg : Nat → Nat → Int}
theorem reck_step {i : Nat} (hi : i < 3) (hJ : XJ x b) (hz : ∀ k, bN b ≤ k → k < 60 → x 3 k = 0) (h0 : sub (embL i) x 0 0 = (i : Int)) (hf : Fr [4, 5, 6, 7, 8, 9, 10, 11, 12, 13, 14, 15, 16, 17, 18, 19, 20] (sub (embL i) x) lg)
    (hL : LOK (x 2) (x 3) (x 4) (x 5) (x 6) (x 7) (sub (embL i) x 2) (sub (embL i) x 3) (bN b) (bM b i) (i : Int) (b 0 11) lg) : XJ (up 28 (embL i) lg x) b ∧ LG b i (sub (embL i) (up 28 (embL i) lg x)) ∧ (∀ u, u < 3 → u ≠ i → ∀ k, k < 21 → sub (embL u) (up 28 (embL i) lg x) k = sub (embL u) x k) ∧ ∀ k, bN b ≤ k → k < 60 → up 28 (embL i) lg x 3 k = 0 := by
  have inj : ∀ a c, a < 28 → c < 28 → embL i a = embL i c → a = c := fun a c ha hc h => embL_inj ha hc h
  have e1 : ∀ k, 1 ≤ k → k ≤ 7 → up 28 (embL i) lg x k = x k := fun k h1 h2 => by
    have h3 : embL i (k + 20) = k := by unfold embL; rw [if_neg (by omega)]; omega
    have h4 := up_in inj (show k + 20 < 28 by omega) lg x
    rw [h3] at h4
    rw [h4, hf (k + 20) (by intro z; simp at z; omega)]
    show x (embL i (k + 20)) = x k
    rw [h3]
  have e2 : ∀ k, k = 0 ∨ k = 72 → up 28 (embL i) lg x k = x k := fun k h => up_out (fun j hj => by unfold embL; split <;> omega) _ _
  have e3 : ∀ u, u < 3 → u ≠ i → ∀ k, k < 21 → sub (embL u) (up 28 (embL i) lg x) k = sub (embL u) x k := fun u hu hne k hk => up_out (fun j hj => embL_apart hi hu hne hk hj) _ _
  have e4 : ∀ k, k < 28 → sub (embL i) (up 28 (embL i) lg x) k = lg k := fun k hk => up_in inj hk lg x
  have e5 : ∀ k, k < 4 → lg k = sub (embL i) x k := fun k hk => hf k (by intro z; simp at z; omega)
  refine ⟨⟨?_, ?_, fun k hk => ?_, fun u hu => ?_, fun y hy => ?_⟩, ?_, e3, ?_⟩
  · rw [e1 1 (by omega) (by omega)]; exact hJ.1
  · rw [e2 0 (Or.inl rfl)]; exact hJ.2.1
  · rw [e1 4 (by omega) (by omega), e1 5 (by omega) (by omega), e1 6 (by omega) (by omega), e1 7 (by omega) (by omega), e1 2 (by omega) (by omega), e1 3 (by omega) (by omega)]
    exact hJ.2.2.1 k hk
  · by_cases z : u = i
    · subst z
      rw [e4 1 (by omega), e4 2 (by omega), e4 3 (by omega), e5 1 (by omega), e5 2 (by omega), e5 3 (by omega)]
      exact hJ.2.2.2.1 u hu
    · rw [e3 u hu z 1 (by omega), e3 u hu z 2 (by omega), e3 u hu z 3 (by omega)]
      exact hJ.2.2.2.1 u hu
  · rw [e2 72 (Or.inr rfl)]; exact hJ.2.2.2.2 y hy
  · exact (LG.of hJ hi (by rw [e5 0 (by omega)]; exact h0) hL).cells fun k hk => e4 k (by omega)
  · rw [e1 3 (by omega) (by omega)]; exact hz
theorem entX_fr {n : Nat} {sa v d ct mo : Int} : Fr [1, 2, 4, 5, 6, 7] x (entX x n sa v d ct mo) :=
  (((((Fr.rf.st (by decide)).st (by decide)).st (by decide)).st (by decide)).st (by decide)).st (by decide)
/-- splits with one more -/
def splL (lg : Nat → Nat → Int) (m : Nat) (d f : Int) : Nat → Nat → Int := stC (stC (stC lg 2 (fnU (lg 2) m d)) 3 (fnU (lg 3) m f)) 1 (fnU (lg 1) 2 ((m : Int) + 1))
theorem splX_J {i : Nat} {d f : Int} (hi : i < 3) (hX : XI x b) (hm : bM b i < 4) : XJ (up 28 (embL i) (splL (sub (embL i) x) (bM b i) d f) x) (splM b i d f) ∧ (∀ u, u < 3 → u ≠ i → ∀ k, k < 21 → sub (embL u) (up 28 (embL i) (splL (sub (embL i) x) (bM b i) d f) x) k = sub (embL u) x k) ∧ sub (embL i) (up 28 (embL i) (splL (sub (embL i) x) (bM b i) d f) x) 0 0 = (i : Int) ∧ ∀ k, 0 ≤ k → k ≤ 7 → up 28 (embL i) (splL (sub (embL i) x) (bM b i) d f) x k = x k := by
  have hJ := hX.2.1
  have inj : ∀ a c, a < 28 → c < 28 → embL i a = embL i c → a = c := fun a c ha hc h => embL_inj ha hc h
  have hs : ∀ k, k ≠ 1 → k ≠ 2 → k ≠ 3 → splL (sub (embL i) x) (bM b i) d f k = sub (embL i) x k := fun k h1 h2 h3 => by unfold splL; rw [stC_ne h1, stC_ne h3, stC_ne h2]
  have e1 : ∀ k, 0 ≤ k → k ≤ 7 → up 28 (embL i) (splL (sub (embL i) x) (bM b i) d f) x k = x k := fun k h1 h2 => by
    rcases Nat.eq_zero_or_pos k with z | z
    · rw [z]; exact up_out (fun j hj => by unfold embL; split <;> omega) _ _
    · have h3 : embL i (k + 20) = k := by unfold embL; rw [if_neg (by omega)]; omega
      have h4 := up_in inj (show k + 20 < 28 by omega) (splL (sub (embL i) x) (bM b i) d f) x
      rw [h3] at h4
      rw [h4, hs (k + 20) (by omega) (by omega) (by omega)]
      show x (embL i (k + 20)) = x k
      rw [h3]
  have e2 : up 28 (embL i) (splL (sub (embL i) x) (bM b i) d f) x 72 = x 72 := up_out (fun j hj => by unfold embL; split <;> omega) _ _
  have e3 : ∀ u, u < 3 → u ≠ i → ∀ k, k < 21 → sub (embL u) (up 28 (embL i) (splL (sub (embL i) x) (bM b i) d f) x) k = sub (embL u) x k := fun u hu hne k hk => up_out (fun j hj => embL_apart hi hu hne hk hj) _ _
  have e4 : ∀ k, k < 28 → sub (embL i) (up 28 (embL i) (splL (sub (embL i) x) (bM b i) d f) x) k = splL (sub (embL i) x) (bM b i) d f k := fun k hk => up_in inj hk _ x
  refine ⟨⟨?_, ?_, fun k hk => ?_, fun u hu => ?_, fun y hy => ?_⟩, e3, ?_, e1⟩
  · rw [e1 1 (by omega) (by omega)]; exact hJ.1
  · rw [e1 0 (by omega) (by omega)]; exact hJ.2.1
  · rw [e1 4 (by omega) (by omega), e1 5 (by omega) (by omega), e1 6 (by omega) (by omega), e1 7 (by omega) (by omega), e1 2 (by omega) (by omega), e1 3 (by omega) (by omega)]
    exact hJ.2.2.1 k hk
  · have e8 : splM b i d f 8 = fnU (b 8) (4 * i + bM b i) d := rfl
    have e9 : splM b i d f 9 = fnU (b 9) (4 * i + bM b i) f := rfl
    have e7 : splM b i d f 7 = fnU (b 7) i ((bM b i : Int) + 1) := rfl
    have hu4 := (hX.1.2.2.1 u hu).2.1
    by_cases z : u = i
    · subst z
      rw [e4 1 (by omega), e4 2 (by omega), e4 3 (by omega), splM_M, e7, e8, e9, fnU_eq]
      refine ⟨by show fnU (sub (embL u) x 1) 2 ((bM b u : Int) + 1) 2 = _; exact fnU_eq _ _ _, fun j hj => ?_⟩
      show fnU (sub (embL u) x 2) (bM b u) d j = _ ∧ fnU (sub (embL u) x 3) (bM b u) f j = _
      by_cases w : j = bM b u
      · rw [w]; simp only [fnU_eq, and_self]
      · rw [fnU_ne w, fnU_ne w, fnU_ne (by omega), fnU_ne (by omega)]; exact (hJ.2.2.2.1 u hu).2 j (by omega)
    · rw [e3 u hu z 1 (by omega), e3 u hu z 2 (by omega), e3 u hu z 3 (by omega), splM_M' z, e7, e8, e9, fnU_ne z]
      refine ⟨(hJ.2.2.2.1 u hu).1, fun j hj => ?_⟩
      rw [fnU_ne (by omega), fnU_ne (by omega)]; exact (hJ.2.2.2.1 u hu).2 j hj
  · rw [e2]; exact hJ.2.2.2.2 y hy
  · rw [e4 0 (by omega), hs 0 (by omega) (by omega) (by omega)]; exact (hX.2.2.1 i hi).1
theorem canX_J {t : Nat} (hX : XI x b) : XJ (stC x 3 (fnU (x 3) t 1)) (canM b t) := by
  have hJ := hX.2.1
  refine ⟨hJ.1, hJ.2.1, fun k hk => ?_, fun u hu => ?_, hJ.2.2.2.2⟩
  · obtain ⟨h1, h2, h3, h4, h5, h6⟩ := hJ.2.2.1 k hk
    refine ⟨h1, h2, h3, h4, h5, ?_⟩
    show fnU (x 3) t 1 k = fnU (b 6) t 1 k
    by_cases y : k = t
    · rw [y, fnU_eq, fnU_eq]
    · rw [fnU_ne y, fnU_ne y]; exact h6
  · show stC x 3 (fnU (x 3) t 1) (embL u 1) 2 = b 7 u ∧ ∀ i, i < bM b u → stC x 3 (fnU (x 3) t 1) (embL u 2) i = b 8 (4 * u + i) ∧ stC x 3 (fnU (x 3) t 1) (embL u 3) i = b 9 (4 * u + i)
    rw [stC_ne (by have := embL_far u 1 (by omega); omega), stC_ne (by have := embL_far u 2 (by omega); omega), stC_ne (by have := embL_far u 3 (by omega); omega)]
    exact hJ.2.2.2.1 u hu
theorem stC_sub {c : Nat} {f : Nat → Int} (h : c ≤ 7 ∨ c = 72) {u : Nat} (hu : u < 3) : ∀ k, k < 21 → sub (embL u) (stC x c f) k = sub (embL u) x k := fun k hk => by
  have h1 := embL_far u k hk
  have h2 : embL u k < 72 := by unfold embL; rw [if_pos hk]; omega
  exact stC_ne (by omega)
theorem alwX {y : Nat} {z : Int} (hX : XI x b) (hy : y < 5) (hz : 0 ≤ z ∧ z ≤ 1000000) : XI (stC x 72 (fnU (x 72) y z)) (alwM b y z) := by
  have hJ := hX.2.1
  have h10 : alwM b y z 10 = fnU (b 10) y z := rfl
  refine ⟨⟨hX.1.1, hX.1.2.1, hX.1.2.2.1, hX.1.2.2.2.1, hX.1.2.2.2.2.1, fun k hk => ?_⟩, ⟨hJ.1, hJ.2.1, hJ.2.2.1, fun u hu => ?_, fun k hk => ?_⟩, fun u hu => ((hX.2.2.1 u hu).se alwM_se).cells (stC_sub (Or.inr rfl) hu), hX.2.2.2⟩
  · rw [h10]
    by_cases w : k = y
    · rw [w, fnU_eq]; exact hz
    · rw [fnU_ne w]; exact hX.1.2.2.2.2.2 k hk
  · rw [stC_sub (Or.inr rfl) hu 1 (by omega), stC_sub (Or.inr rfl) hu 2 (by omega), stC_sub (Or.inr rfl) hu 3 (by omega)]
    exact hJ.2.2.2.1 u hu
  · rw [h10]
    show fnU (x 72) y z k = _
    by_cases w : k = y
    · rw [w, fnU_eq, fnU_eq]
    · rw [fnU_ne w, fnU_ne w]; exact hJ.2.2.2.2 k hk
theorem winX_J {z : Int} (hX : XI x b) : XJ (stC x 0 (fnU (x 0) 3 z)) (winM b z) := by
  have hJ := hX.2.1
  refine ⟨hJ.1, rfl, hJ.2.2.1, fun u hu => ?_, hJ.2.2.2.2⟩
  rw [stC_sub (Or.inl (by omega)) hu 1 (by omega), stC_sub (Or.inl (by omega)) hu 2 (by omega), stC_sub (Or.inl (by omega)) hu 3 (by omega)]
  exact hJ.2.2.2.1 u hu
theorem winM_V {z : Int} (hB : BV b) (hz : 0 ≤ z ∧ z ≤ 60) : BV (winM b z) := ⟨hB.1, hB.2.1, hB.2.2.1, hz, hB.2.2.2.2.1, hB.2.2.2.2.2⟩
section LS
variable {v : Nat}
theorem LG.sums (hL : LG b v lg) : ∀ r, r ≤ lR lg → sm (fun i => lg 6 i - lg 9 i) r = sm (fun i => bQ b v (lg 5) i - bS b v (lg 5) i) r := fun r hr => sm_congr fun i hi => by
  obtain ⟨h1, h2, h3, h4, h5⟩ := hL.2.2.1.2 i (by omega)
  rw [h2, h4]
theorem LG.rng (hB : BV b) (hv : v < 3) (hL : LG b v lg) : ∀ r, r ≤ lR lg → 0 ≤ sm (fun i => lg 6 i - lg 9 i) r ∧ sm (fun i => lg 6 i - lg 9 i) r ≤ 37500000 := by
  intro r hr
  rw [hL.sums r hr]
  obtain ⟨hR6, hso, hDr, hb0, hs0, hc0, hp0, hh0, hnz, hsc, hsp, hsb, hss⟩ := hL.RN hB hv
  refine ⟨?_, ?_⟩
  · cases r with
    | zero => exact Int.le_refl _
    | succ r => exact hh0 r (by omega)
  · rw [sm_sub]
    have h1 : 0 ≤ sm (bS b v (lg 5)) r := sm_nn fun i _ => (hs0 i).1
    have h2 : sm (bQ b v (lg 5)) r ≤ sm (bQ b v (lg 5)) (lR lg) := sm_mono (fun i _ => (hb0 i).1) hr
    have h3 : sm (fun i => bQ b v (lg 5) i) r = sm (bQ b v (lg 5)) r := rfl
    have h4 : sm (fun i => bS b v (lg 5) i) r = sm (bS b v (lg 5)) r := rfl
    omega
theorem LG.least (hB : BV b) (hv : v < 3) (hL : LG b v lg) {d z : Int} (h : ∃ q, q ≤ lR lg ∧ (∀ r, r < q → lg 5 r ≤ d) ∧ (q < lR lg → d < lg 5 q) ∧ (∃ i, q ≤ i ∧ i ≤ lR lg ∧ z = sm (fun i => lg 6 i - lg 9 i) i) ∧ ∀ i, q ≤ i → i ≤ lR lg → z ≤ sm (fun i => lg 6 i - lg 9 i) i) : (0 ≤ z ∧ z ≤ 37500000) ∧ (∃ e, d ≤ e ∧ z = bH b v e) ∧ ∀ e, d ≤ e → z ≤ bH b v e := by
  obtain ⟨q, h1, h2, h3, ⟨i, h4, h5, h6⟩, h7⟩ := h
  have hq : cutR (lg 5) (lR lg) d q := ⟨h1, h2, fun r a c => by
    have h8 := h3 (by omega)
    rcases Nat.lt_or_ge q r with w | w
    · have h9 := hL.2.1.2.2 q r w c; omega
    · rw [show r = q by omega]; exact h8⟩
  refine ⟨by rw [h6]; exact hL.rng hB hv i h5, least_H hL.2.1 hq ⟨i, h4, h5, by rw [h6]; exact hL.sums i h5⟩ fun j a c => by rw [← hL.sums j c]; exact h7 j a c⟩
end LS
end ST4
