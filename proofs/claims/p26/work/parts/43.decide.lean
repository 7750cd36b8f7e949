-- who may sell
section DC
variable {b : Nat → Nat → Int} {v R : Nat} {D : Nat → Int}
theorem row_H (hI : bRow b v R D) {e : Int} {i : Nat} (hc : cutR D R e i) : bH b v e = sm (fun r => bQ b v D r - bS b v D r) i := by
  rw [sm_sub]
  have h1 := rows_upto hI (wB (b 5) (bU b v)) hc.1 hc.2.1 hc.2.2
  have h2 := rows_upto hI (wS (b 5) (bU b v)) hc.1 hc.2.1 hc.2.2
  show hold _ _ _ _ _ _ = sm (fun r => wsum (bL b v) (b 2) (wB (b 5) (bU b v)) (bN b) (D r)) i - sm (fun r => wsum (bL b v) (b 2) (wS (b 5) (bU b v)) (bN b) (D r)) i
  rw [h1, h2]; rfl
theorem cut_row (hI : bRow b v R D) {r : Nat} (hr : r < R) : cutR D R (D r) (r + 1) := by
  refine ⟨hr, fun i hi => ?_, fun i h1 h2 => hI.2.2 r i (by omega) h2⟩
  rcases Nat.lt_or_ge i r with h | h
  · exact Int.le_of_lt (hI.2.2 i r h hr)
  · rw [show i = r by omega]; exact Int.le_refl _
theorem cut_mono {d e : Int} {q i : Nat} (hde : d ≤ e) (hq : cutR D R d q) (hi : cutR D R e i) : q ≤ i := by
  rcases Nat.lt_or_ge i q with h | h
  · have h1 := hq.2.1 i h; have h2 := hi.2.2 i (Nat.le_refl _) (by have := hq.1; omega); omega
  · exact h
theorem day_row (hI : bRow b v R D) {r : Nat} (hr : r < R) : ∃ k, k < bN b ∧ bL b v k = true ∧ b 2 k = D r := by
  obtain ⟨k, h1, h2, h3⟩ := hI.1 r hr
  exact ⟨k, h1, h2, h3⟩
/-- the least holding from a day on, by the rows -/
theorem least_H (hI : bRow b v R D) {d z : Int} {q : Nat} (hq : cutR D R d q) (h1 : ∃ i, q ≤ i ∧ i ≤ R ∧ z = sm (fun r => bQ b v D r - bS b v D r) i) (h2 : ∀ i, q ≤ i → i ≤ R → z ≤ sm (fun r => bQ b v D r - bS b v D r) i) : (∃ e, d ≤ e ∧ z = bH b v e) ∧ ∀ e, d ≤ e → z ≤ bH b v e := by
  refine ⟨?_, fun e he => ?_⟩
  · obtain ⟨i, h3, h4, h5⟩ := h1
    rcases Nat.lt_or_ge q i with h | h
    · refine ⟨D (i - 1), Int.le_of_lt (hq.2.2 (i - 1) (by omega) (by omega)), ?_⟩
      have h6 := cut_row hI (show i - 1 < R by omega)
      rw [show i - 1 + 1 = i by omega] at h6
      rw [row_H hI h6]; exact h5
    · rw [show i = q by omega] at h5
      exact ⟨d, Int.le_refl _, by rw [row_H hI hq]; exact h5⟩
  · obtain ⟨i, h3⟩ := rows_cut hI e
    rw [row_H hI h3]
    exact h2 i (cut_mono he hq h3) h3.1
theorem spare_day (hI : bRow b v R D) {d u : Int} (h : ∃ e, d ≤ e ∧ bH b v e < u) : bH b v d < u ∨ ∃ k, k < bN b ∧ bL b v k = true ∧ d ≤ b 2 k ∧ bH b v (b 2 k) < u := by
  obtain ⟨e, he, hu⟩ := h
  obtain ⟨q, hq⟩ := rows_cut hI d
  obtain ⟨i, hi⟩ := rows_cut hI e
  have h1 := cut_mono he hq hi
  rw [row_H hI hi] at hu
  rcases Nat.lt_or_ge q i with h | h
  · have hiR := hi.1
    have h6 := cut_row hI (show i - 1 < R by omega)
    rw [show i - 1 + 1 = i by omega] at h6
    obtain ⟨k, k1, k2, k3⟩ := day_row hI (show i - 1 < R by omega)
    refine Or.inr ⟨k, k1, k2, ?_, ?_⟩
    · rw [k3]; exact Int.le_of_lt (hq.2.2 (i - 1) (by omega) (by omega))
    · rw [k3, row_H hI h6]; exact hu
  · left
    rw [row_H hI hq, show q = i by omega]; exact hu
theorem sell_yes (hB : BV b) {d ct mo : Int} (h : ∀ e, d ≤ e → ct * fla (bSD b v) (bSF b v) (bM b v) d ≤ bH b v e) : ∀ u, u < 3 → ∀ e, 0 ≤ bH (entM b (v : Int) d ct mo 1) u e := by
  intro u hu e
  rw [entM_H]
  have h1 := hB.2.2.2.2.1 u hu e
  by_cases x : (v : Int) = u ∧ d ≤ e
  · rw [if_pos x, if_neg (by decide)]
    have h2 := h e x.2
    have ev : v = u := by omega
    subst ev; omega
  · rw [if_neg x]; omega
theorem sell_no (hI : bRow b v R D) {d ct mo : Int} (h : ∃ e, d ≤ e ∧ bH b v e < ct * fla (bSD b v) (bSF b v) (bM b v) d) : ∃ k, k < bN b + 1 ∧ entM b (v : Int) d ct mo 1 1 k = (v : Int) ∧ bH (entM b (v : Int) d ct mo 1) v (entM b (v : Int) d ct mo 1 2 k) < 0 := by
  have e1 : entM b (v : Int) d ct mo 1 1 = fnU (b 1) (bN b) v := rfl
  have e2 : entM b (v : Int) d ct mo 1 2 = fnU (b 2) (bN b) d := rfl
  rw [e1, e2]
  rcases spare_day hI h with h | ⟨k, k1, k2, k3, k4⟩
  · refine ⟨bN b, by omega, fnU_eq _ _ _, ?_⟩
    rw [fnU_eq, entM_H, if_pos ⟨rfl, Int.le_refl _⟩, if_neg (by decide)]; omega
  · have y : k ≠ bN b := by omega
    refine ⟨k, by omega, by rw [fnU_ne y]; exact (lvb_t.mp k2).1, ?_⟩
    rw [fnU_ne y, entM_H, if_pos ⟨rfl, k3⟩, if_neg (by decide)]; omega
theorem buy_yes (hB : BV b) {d ct mo : Int} (hct : 0 ≤ ct) : ∀ u, u < 3 → ∀ e, 0 ≤ bH (entM b (v : Int) d ct mo 0) u e := by
  intro u hu e
  rw [entM_H]
  have h1 := hB.2.2.2.2.1 u hu e
  have h2 : 0 ≤ ct * fla (bSD b u) (bSF b u) (bM b u) d := Int.mul_nonneg hct (by have := (fla_bd (hB.2.2.1 u hu).2 d).1; omega)
  split
  · rw [if_pos rfl]; omega
  · omega
theorem can_buy (hB : BV b) {t : Nat} (ht : t < bN b) (hg : b 6 t = 0) (hs : b 5 t = 0) (hv : b 1 t = (v : Int)) (h : ∀ e, b 2 t ≤ e → bU b v t ≤ bH b v e) : ∀ u, u < 3 → ∀ e, 0 ≤ bH (canM b t) u e := by
  intro u hu e
  rw [canM_H ht hg]
  have h1 := hB.2.2.2.2.1 u hu e
  by_cases x : b 1 t = (u : Int) ∧ b 2 t ≤ e
  · rw [if_pos x, if_pos hs]
    have h2 := h e x.2
    have ev : v = u := by omega
    subst ev; omega
  · rw [if_neg x]; omega
theorem can_sale (hB : BV b) {t : Nat} (ht : t < bN b) (hg : b 6 t = 0) (hs : ¬ b 5 t = 0) : ∀ u, u < 3 → ∀ e, 0 ≤ bH (canM b t) u e := by
  intro u hu e
  rw [canM_H ht hg]
  have h1 := hB.2.2.2.2.1 u hu e
  have h2 : 1 ≤ bU b u t := (uni_bd hB.2.1 (hB.2.2.1 u hu).2 ht).1
  by_cases y : b 1 t = (u : Int) ∧ b 2 t ≤ e
  · rw [if_pos y, if_neg hs]; omega
  · rw [if_neg y]; omega
theorem can_no (hI : bRow b v R D) {t : Nat} (ht : t < bN b) (hg : b 6 t = 0) (hs : b 5 t = 0) (hv : b 1 t = (v : Int)) (h : ∃ e, b 2 t ≤ e ∧ bH b v e < bU b v t) : ∃ k, k < bN b ∧ b 1 k = (v : Int) ∧ bH (canM b t) v (b 2 k) < 0 := by
  rcases spare_day hI h with h | ⟨k, k1, k2, k3, k4⟩
  · refine ⟨t, ht, hv, ?_⟩
    rw [canM_H ht hg, if_pos ⟨hv, Int.le_refl _⟩, if_pos hs]; omega
  · refine ⟨k, k1, (lvb_t.mp k2).1, ?_⟩
    rw [canM_H ht hg, if_pos ⟨hv, k3⟩, if_pos hs]; omega
theorem spl_yes (hB : BV b) {d f : Int} (hv : v < 3) (hm : bM b v < 4) (hf : 2 ≤ f) : ∀ u, u < 3 → ∀ e, 0 ≤ bH (splM b v d f) u e := by
  intro u hu e
  rw [splM_H hm u (hB.2.2.1 u hu).2.1]
  have h1 := hB.2.2.2.2.1 u hu e
  have h2 : 0 ≤ (f - 1) * bH b u (min e (d - 1)) := Int.mul_nonneg (by omega) (hB.2.2.2.2.1 u hu _)
  split <;> omega
end DC
section XU
variable {x b lg : Nat → Nat → Int}
/-- ledgers are told by their own cells -/
theorem LG.cells {v : Nat} {lg' : Nat → Nat → Int} (hL : LG b v lg) (h : ∀ k, k < 21 → lg' k = lg k) : LG b v lg' := by
  unfold LG lR RC AL at *
  rw [h 0 (by omega), h 4 (by omega), h 5 (by omega), h 6 (by omega), h 8 (by omega), h 9 (by omega), h 11 (by omega), h 12 (by omega), h 13 (by omega), h 14 (by omega), h 15 (by omega), h 16 (by omega), h 17 (by omega), h 18 (by omega), h 19 (by omega), h 20 (by omega)]
  exact hL
theorem embL_apart {i u k j : Nat} (hi : i < 3) (hu : u < 3) (hne : u ≠ i) (hk : k < 21) (hj : j < 28) : embL i j ≠ embL u k := by
  unfold embL; rw [if_pos hk]; split <;> omega
/-- behind a reckoning of the ledger i, all is as the book asks -/
theorem XI.reck {i : Nat} (hi : i < 3) (hB : BV b) (hJ : XJ x b) (hoth : ∀ u, u < 3 → u ≠ i → LG b u (sub (embL u) x)) (hz : ∀ k, bN b ≤ k → k < 60 → x 3 k = 0) (h0 : sub (embL i) x 0 0 = (i : Int)) (hf : Fr [4, 5, 6, 7, 8, 9, 10, 11, 12, 13, 14, 15, 16, 17, 18, 19, 20] (sub (embL i) x) lg)
    (hL : LOK (x 2) (x 3) (x 4) (x 5) (x 6) (x 7) (sub (embL i) x 2) (sub (embL i) x 3) (bN b) (bM b i) (i : Int) (b 0 11) lg) : XI (up 28 (embL i) lg x) b := by
  have inj : ∀ a c, a < 28 → c < 28 → embL i a = embL i c → a = c := fun a c ha hc h => embL_inj ha hc h
  have e1 : ∀ k, 1 ≤ k → k ≤ 7 → up 28 (embL i) lg x k = x k := fun k h1 h2 => by
    have h3 : embL i (k + 20) = k := by unfold embL; rw [if_neg (by omega)]; omega
    have h4 := up_in inj (show k + 20 < 28 by omega) lg x
    rw [h3] at h4
    rw [h4, hf (k + 20) (by intro z; simp at z; omega)]
    show x (embL i (k + 20)) = x k
    rw [h3]
  have e2 : ∀ k, k = 0 ∨ k = 72 → up 28 (embL i) lg x k = x k := fun k h => up_out (fun j hj => by unfold embL; split <;> omega) _ _
  have e3 : ∀ u, u < 3 → u ≠ i → ∀ k, k < 21 → sub (embL u) (up 28 (embL i) lg x) k = sub (embL u) x k := fun u hu hne k hk => up_out (fun j hj => embL_apart hi hu hne hk hj) _ _
  have e4 : ∀ k, k < 28 → sub (embL i) (up 28 (embL i) lg x) k = lg k := fun k hk => up_in inj hk lg x
  have e5 : ∀ k, k < 4 → lg k = sub (embL i) x k := fun k hk => hf k (by intro z; simp at z; omega)
  refine ⟨hB, ⟨?_, ?_, fun k hk => ?_, fun u hu => ?_, fun y hy => ?_⟩, fun u hu9 => ?_, ?_⟩
  · rw [e1 1 (by omega) (by omega)]; exact hJ.1
  · rw [e2 0 (Or.inl rfl)]; exact hJ.2.1
  · rw [e1 4 (by omega) (by omega), e1 5 (by omega) (by omega), e1 6 (by omega) (by omega), e1 7 (by omega) (by omega), e1 2 (by omega) (by omega), e1 3 (by omega) (by omega)]
    exact hJ.2.2.1 k hk
  · by_cases z : u = i
    · subst z
      rw [e4 1 (by omega), e4 2 (by omega), e4 3 (by omega), e5 1 (by omega), e5 2 (by omega), e5 3 (by omega)]
      exact hJ.2.2.2.1 u hu
    · rw [e3 u hu z 1 (by omega), e3 u hu z 2 (by omega), e3 u hu z 3 (by omega)]
      exact hJ.2.2.2.1 u hu
  · rw [e2 72 (Or.inr rfl)]; exact hJ.2.2.2.2 y hy
  · by_cases z : u = i
    · subst z
      exact (LG.of hJ hu9 (by rw [e5 0 (by omega)]; exact h0) hL).cells fun k hk => e4 k (by omega)
    · exact (hoth u hu9 z).cells fun k hk => e3 u hu9 z k hk
  · rw [e1 3 (by omega) (by omega)]; exact hz
/-- the journal with a trade more -/
def entX (x : Nat → Nat → Int) (n : Nat) (sa v d ct mo : Int) : Nat → Nat → Int := stC (stC (stC (stC (stC (stC x 2 (fnU (x 2) n sa)) 4 (fnU (x 4) n v)) 5 (fnU (x 5) n d)) 6 (fnU (x 6) n ct)) 7 (fnU (x 7) n mo)) 1 (fnU (x 1) 6 ((n : Int) + 1))
theorem entX_out {n : Nat} {sa v d ct mo : Int} {k : Nat} (h : k = 0 ∨ 7 < k) : entX x n sa v d ct mo k = x k := by
  unfold entX
  rw [stC_ne (by omega), stC_ne (by omega), stC_ne (by omega), stC_ne (by omega), stC_ne (by omega), stC_ne (by omega)]
theorem embL_far (u k : Nat) (hk : k < 21) : 7 < embL u k := by unfold embL; rw [if_pos hk]; omega
theorem entX_J {sa v d ct mo : Int} (hX : XI x b) (hn : bN b < 60) : XJ (entX x (bN b) sa v d ct mo) (entM b v d ct mo sa) := by
  have hJ := hX.2.1
  refine ⟨rfl, ?_, fun k hk => ?_, fun u hu => ?_, fun y hy => ?_⟩
  · rw [entX_out (Or.inl rfl)]; exact hJ.2.1
  · rw [entM_N] at hk
    show fnU (x 4) (bN b) v k = fnU (b 1) (bN b) v k ∧ fnU (x 5) (bN b) d k = fnU (b 2) (bN b) d k ∧ fnU (x 6) (bN b) ct k = fnU (b 3) (bN b) ct k ∧ fnU (x 7) (bN b) mo k = fnU (b 4) (bN b) mo k ∧ fnU (x 2) (bN b) sa k = fnU (b 5) (bN b) sa k ∧ x 3 k = fnU (b 6) (bN b) 0 k
    by_cases y : k = bN b
    · subst y; simp only [fnU_eq, true_and]; exact hX.2.2.2 _ (Nat.le_refl _) hn
    · simp only [fnU_ne y]; exact hJ.2.2.1 k (by omega)
  · show entX x (bN b) sa v d ct mo (embL u 1) 2 = b 7 u ∧ ∀ i, i < bM b u → entX x (bN b) sa v d ct mo (embL u 2) i = b 8 (4 * u + i) ∧ entX x (bN b) sa v d ct mo (embL u 3) i = b 9 (4 * u + i)
    rw [entX_out (Or.inr (embL_far u 1 (by omega))), entX_out (Or.inr (embL_far u 2 (by omega))), entX_out (Or.inr (embL_far u 3 (by omega)))]
    exact hJ.2.2.2.1 u hu
  · rw [entX_out (Or.inr (by omega))]; exact hJ.2.2.2.2 y hy
theorem entX_sub {n : Nat} {sa v d ct mo : Int} (u : Nat) : ∀ k, k < 21 → sub (embL u) (entX x n sa v d ct mo) k = sub (embL u) x k := fun k hk => entX_out (Or.inr (embL_far u k hk))
theorem entX_z {sa v d ct mo : Int} (hX : XI x b) : ∀ k, bN (entM b v d ct mo sa) ≤ k → k < 60 → entX x (bN b) sa v d ct mo 3 k = 0 := by
  intro k h1 h2
  rw [entM_N] at h1
  exact hX.2.2.2 k (by omega) h2
theorem entX_reck {v : Nat} {sa d ct mo : Int} (hv : v < 3) (hX : XI x b) (hn : bN b < 60) (hB : BV (entM b (v : Int) d ct mo sa)) (hf : Fr [4, 5, 6, 7, 8, 9, 10, 11, 12, 13, 14, 15, 16, 17, 18, 19, 20] (sub (embL v) (entX x (bN b) sa v d ct mo)) lg)
    (hL : LOK (entX x (bN b) sa v d ct mo 2) (entX x (bN b) sa v d ct mo 3) (entX x (bN b) sa v d ct mo 4) (entX x (bN b) sa v d ct mo 5) (entX x (bN b) sa v d ct mo 6) (entX x (bN b) sa v d ct mo 7) (sub (embL v) (entX x (bN b) sa v d ct mo) 2) (sub (embL v) (entX x (bN b) sa v d ct mo) 3) (bN (entM b (v : Int) d ct mo sa)) (bM (entM b (v : Int) d ct mo sa) v) (v : Int) (b 0 11) lg) : XI (up 28 (embL v) lg (entX x (bN b) sa v d ct mo)) (entM b (v : Int) d ct mo sa) :=
  XI.reck hv hB (entX_J hX hn) (fun u hu hne => ((hX.2.2.1 u hu).se (entM_se hne)).cells (entX_sub u)) (entX_z hX) (by rw [entX_sub v 0 (by omega)]; exact (hX.2.2.1 v hv).1) hf hL
end XU
