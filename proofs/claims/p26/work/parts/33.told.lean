-- sums over matches
def mco (x : MTup) : Int := x.2.2.2.2.1
def mpr (x : MTup) : Int := x.2.2.2.2.2
theorem lsum_take {g : MTup → Int} {M : List MTup} {k : Nat} {x : MTup} (hx : M[k]? = some x) : lsum g (M.take (k + 1)) = lsum g (M.take k) + g x := by
  rw [List.take_succ, hx, lsum_app]; simp [lsum]
theorem lsum_rounds {F G : Nat → List MTup} (h0 : G 0 = []) (hs : ∀ k, G (k + 1) = G k ++ F k) (g : MTup → Int) : ∀ n, lsum g (G n) = sm (fun k => lsum g (F k)) n := by
  intro n
  induction n with
  | zero => rw [h0]; rfl
  | succ n ih => rw [hs, lsum_app, ih, sm_succ]
theorem lsum_part {g : MTup → Int} {q : MTup → Prop} [DecidablePred q] {l : List MTup} (h : ∀ x ∈ l, 0 ≤ g x) : 0 ≤ lsum (fun x => if q x then g x else 0) l ∧ lsum (fun x => if q x then g x else 0) l ≤ lsum g l := by
  induction l with
  | nil => exact ⟨Int.le_refl _, Int.le_refl _⟩
  | cons x l ih =>
    obtain ⟨h1, h2⟩ := ih (fun y hy => h y (List.mem_cons_of_mem _ hy))
    have h3 := h x (List.mem_cons_self ..)
    simp only [lsum]
    split <;> exact ⟨by omega, by omega⟩
theorem lsum_sub (f g : MTup → Int) (l : List MTup) : lsum (fun x => f x - g x) l = lsum f l - lsum g l := by
  induction l with
  | nil => rfl
  | cons x l ih => simp only [lsum, ih]; omega
theorem lsum_congr {f g : MTup → Int} {l : List MTup} (h : ∀ x ∈ l, f x = g x) : lsum f l = lsum g l := by
  induction l with
  | nil => rfl
  | cons x l ih => simp only [lsum]; rw [h x (List.mem_cons_self ..), ih (fun y hy => h y (List.mem_cons_of_mem _ hy))]
section TD
variable {D b s c p : Nat → Int} {w : Int} {R : Nat}
theorem prt_as (c q f u : Int) : prt c q f u = c * (f + u) / q - c * f / q := rfl
theorem co_same (hb : ∀ j, 0 ≤ b j) (hs : ∀ j, 0 ≤ s j) (k : Nat) : lsum mco (mSame b s c p k) = prt (c k) (b k) 0 (min (b k) (s k)) ∧ lsum mpr (mSame b s c p k) = prt (p k) (s k) 0 (min (b k) (s k)) := by
  unfold mSame
  have h1 := hb k
  have h2 := hs k
  by_cases q : 0 < min (b k) (s k)
  · rw [if_pos q]; exact ⟨by simp [lsum, mco], by simp [lsum, mpr]⟩
  · rw [if_neg q, show min (b k) (s k) = 0 by omega, prt_none, prt_none]; exact ⟨rfl, rfl⟩
theorem co_lats (hb : ∀ j, 0 ≤ b j) (hs : ∀ j, 0 ≤ s j) (k : Nat) : ∀ m, lsum mco (mLats D b s c p w k m) = sm (fun i => prt (c i) (b i) (b i - blw D b s w k i) (utk D b s w k i)) m ∧ lsum mpr (mLats D b s c p w k m) = sm (fun i => prt (p k) (s k) (s k - slft D b s w k i) (utk D b s w k i)) m := by
  intro m
  induction m with
  | zero => exact ⟨rfl, rfl⟩
  | succ m ih =>
    rw [mLats, lsum_app, lsum_app, ih.1, ih.2, sm_succ, sm_succ]
    have h1 := (utk_bd (D := D) (w := w) hb hs k m).1
    unfold mLat
    by_cases q : 0 < utk D b s w k m
    · rw [if_pos q]; exact ⟨by simp [lsum, mco], by simp [lsum, mpr]⟩
    · rw [if_neg q, show utk D b s w k m = 0 by omega, prt_none, prt_none]; exact ⟨rfl, rfl⟩
theorem co_pool (hb : ∀ j, 0 ≤ b j) (hs : ∀ j, 0 ≤ s j) (r : Nat) : lsum mco (mPool D b s c p w R r) = hC D b s c w R r - pC D b s c w R (r + 1) ∧ lsum mpr (mPool D b s c p w R r) = prt (p r) (s r) (s r - slft D b s w r R) (slft D b s w r R) := by
  have h1 := (left_nn (D := D) (w := w) hb hs r).2 R
  rw [pC_s]
  unfold mPool
  by_cases q : 0 < slft D b s w r R
  · rw [if_pos q, if_pos q]; exact ⟨by simp only [lsum, mco]; omega, by simp [lsum, mpr]⟩
  · rw [if_neg q, if_neg q, show slft D b s w r R = 0 by omega, prt_none]; exact ⟨by simp only [lsum]; omega, rfl⟩
theorem co_tele (k : Nat) (j : Nat) : sm (fun i => prt (c j) (b j) (b j - blw D b s w i j) (utk D b s w i j)) k = c j * (b j - blw D b s w k j) / b j - c j * (b j - blw D b s w 0 j) / b j := by
  induction k with
  | zero => rw [sm]; omega
  | succ k ih => rw [sm_succ, ih, prt_as, show b j - blw D b s w k j + utk D b s w k j = b j - blw D b s w (k + 1) j by rw [blw_s]; omega]; omega
theorem pr_tele (k : Nat) (j : Nat) : sm (fun i => prt (p k) (s k) (s k - slft D b s w k i) (utk D b s w k i)) j = p k * (s k - slft D b s w k j) / s k - p k * (s k - slft D b s w k 0) / s k := by
  induction j with
  | zero => rw [sm]; omega
  | succ j ih => rw [sm_succ, ih, prt_as, show s k - slft D b s w k j + utk D b s w k j = s k - slft D b s w k (j + 1) by rw [slft_s]; omega]; omega
theorem whole_le {x q : Int} (hx : 0 ≤ x) (hq : 0 ≤ q) : x * q / q ≤ x := (div_le_self hx hq (Int.le_refl q)).2
theorem sm_fall (f : Nat → Int) (n : Nat) : sm (fun r => f r - f (r + 1)) n = f 0 - f n := by
  induction n with
  | zero => rw [sm]; omega
  | succ n ih => rw [sm_succ, ih]; omega
/-- what all matches cost is no more than what all buys did -/
theorem made_co (hb : ∀ j, 0 ≤ b j) (hs : ∀ j, 0 ≤ s j) (hc : ∀ j, 0 ≤ c j) (hh : ∀ r, r < R → 0 ≤ sm (fun i => b i - s i) (r + 1)) : lsum mco (mMade D b s c p w R) ≤ sm c R := by
  have e1 : lsum mco (mSs b s c p R) = sm (fun k => prt (c k) (b k) 0 (min (b k) (s k))) R := by
    rw [lsum_rounds (F := mSame b s c p) (G := mSs b s c p) rfl (fun _ => rfl)]
    exact sm_congr fun k _ => (co_same hb hs k).1
  have e2 : lsum mco (mLL D b s c p w R R) = sm (fun j => sm (fun k => prt (c j) (b j) (b j - blw D b s w k j) (utk D b s w k j)) R) R := by
    rw [lsum_rounds (F := fun k => mLats D b s c p w k R) (G := mLL D b s c p w R) rfl (fun _ => rfl), ← sm_swap]
    exact sm_congr fun k _ => (co_lats hb hs k R).1
  have e3 : lsum mco (mPP D b s c p w R R) = sm (fun r => prt (c r) (b r) (b r - blw D b s w R r) (blw D b s w R r)) R + (pC D b s c w R 0 - pC D b s c w R R) := by
    rw [lsum_rounds (F := mPool D b s c p w R) (G := mPP D b s c p w R) rfl (fun _ => rfl), ← sm_fall, ← sm_add]
    refine sm_congr fun r _ => ?_
    rw [(co_pool hb hs r).1]
    have e : hC D b s c w R r = pC D b s c w R r + prt (c r) (b r) (b r - blw D b s w R r) (blw D b s w R r) := rfl
    omega
  have h0 := (pC_bd (D := D) (w := w) hb hs hc hh R (Nat.le_refl R)).1
  have h1 : pC D b s c w R 0 = 0 := rfl
  have h2 : sm (fun k => prt (c k) (b k) 0 (min (b k) (s k)) + (sm (fun i => prt (c k) (b k) (b k - blw D b s w i k) (utk D b s w i k)) R + prt (c k) (b k) (b k - blw D b s w R k) (blw D b s w R k))) R ≤ sm c R := by
    refine sm_le fun k _ => ?_
    rw [co_tele, prt_as, prt_as, Int.zero_add, show min (b k) (s k) = b k - blw D b s w 0 k by rw [blw_0]; omega, Int.mul_zero, Int.zero_ediv, show b k - blw D b s w R k + blw D b s w R k = b k by omega]
    have h3 := whole_le (hc k) (hb k)
    omega
  rw [sm_add, sm_add] at h2
  unfold mMade
  rw [lsum_app, lsum_app, e1, e2, e3]
  omega
theorem made_pr (hb : ∀ j, 0 ≤ b j) (hs : ∀ j, 0 ≤ s j) (hp : ∀ j, 0 ≤ p j) : lsum mpr (mMade D b s c p w R) ≤ sm p R := by
  have e1 : lsum mpr (mSs b s c p R) = sm (fun k => prt (p k) (s k) 0 (min (b k) (s k))) R := by
    rw [lsum_rounds (F := mSame b s c p) (G := mSs b s c p) rfl (fun _ => rfl)]
    exact sm_congr fun k _ => (co_same hb hs k).2
  have e2 : lsum mpr (mLL D b s c p w R R) = sm (fun k => sm (fun j => prt (p k) (s k) (s k - slft D b s w k j) (utk D b s w k j)) R) R := by
    rw [lsum_rounds (F := fun k => mLats D b s c p w k R) (G := mLL D b s c p w R) rfl (fun _ => rfl)]
    exact sm_congr fun k _ => (co_lats hb hs k R).2
  have e3 : lsum mpr (mPP D b s c p w R R) = sm (fun r => prt (p r) (s r) (s r - slft D b s w r R) (slft D b s w r R)) R := by
    rw [lsum_rounds (F := mPool D b s c p w R) (G := mPP D b s c p w R) rfl (fun _ => rfl)]
    exact sm_congr fun r _ => (co_pool hb hs r).2
  have h2 : sm (fun k => prt (p k) (s k) 0 (min (b k) (s k)) + (sm (fun j => prt (p k) (s k) (s k - slft D b s w k j) (utk D b s w k j)) R + prt (p k) (s k) (s k - slft D b s w k R) (slft D b s w k R))) R ≤ sm p R := by
    refine sm_le fun k _ => ?_
    rw [pr_tele, prt_as, prt_as, Int.zero_add, show min (b k) (s k) = s k - slft D b s w k 0 by rw [slft_0]; omega, Int.mul_zero, Int.zero_ediv, show s k - slft D b s w k R + slft D b s w k R = s k by omega]
    have h3 := whole_le (hp k) (hs k)
    omega
  rw [sm_add, sm_add] at h2
  unfold mMade
  rw [lsum_app, lsum_app, e1, e2, e3]
  omega
theorem mem_rounds {F G : Nat → List MTup} (h0 : G 0 = []) (hs : ∀ k, G (k + 1) = G k ++ F k) : ∀ n x, x ∈ G n → ∃ k, k < n ∧ x ∈ F k := by
  intro n
  induction n with
  | zero => intro x h; rw [h0] at h; cases h
  | succ n ih =>
    intro x h
    rw [hs] at h
    rcases List.mem_append.mp h with h | h
    · obtain ⟨k, h1, h2⟩ := ih x h; exact ⟨k, by omega, h2⟩
    · exact ⟨n, by omega, h⟩
theorem mem_lats {k : Nat} {x : MTup} : ∀ {m : Nat}, x ∈ mLats D b s c p w k m → ∃ j, j < m ∧ x ∈ mLat D b s c p w k j := by
  intro m
  exact mem_rounds (F := mLat D b s c p w k) (G := mLats D b s c p w k) rfl (fun _ => rfl) m x
/-- a match: its rows lie in the sheet, its numbers are not below 0 -/
theorem made_ok (hb : ∀ j, 0 ≤ b j) (hs : ∀ j, 0 ≤ s j) (hc : ∀ j, 0 ≤ c j) (hp : ∀ j, 0 ≤ p j) (hh : ∀ r, r < R → 0 ≤ sm (fun i => b i - s i) (r + 1)) {x : MTup} (hx : x ∈ mMade D b s c p w R) : x.1 < R ∧ -1 ≤ x.2.1 ∧ x.2.1 < R ∧ 0 ≤ mco x ∧ 0 ≤ mpr x := by
  rcases List.mem_append.mp hx with h | h
  · obtain ⟨k, hk, h⟩ := mem_rounds (F := mSame b s c p) (G := mSs b s c p) rfl (fun _ => rfl) R x h
    unfold mSame at h
    split at h
    · rw [List.mem_singleton.mp h]
      refine ⟨hk, ?_, ?_, prt_nn (hc k) (hb k) (by omega), prt_nn (hp k) (hs k) (by omega)⟩
      · show -1 ≤ (k : Int); omega
      · show (k : Int) < R; omega
    · cases h
  rcases List.mem_append.mp h with h | h
  · obtain ⟨k, hk, h⟩ := mem_rounds (F := fun k => mLats D b s c p w k R) (G := mLL D b s c p w R) rfl (fun _ => rfl) R x h
    obtain ⟨j, hj, h⟩ := mem_lats h
    unfold mLat at h
    split at h
    · rw [List.mem_singleton.mp h]
      refine ⟨hk, ?_, ?_, prt_nn (hc j) (hb j) (by omega), prt_nn (hp k) (hs k) (by omega)⟩
      · show -1 ≤ (j : Int); omega
      · show (j : Int) < R; omega
    · cases h
  · obtain ⟨k, hk, h⟩ := mem_rounds (F := mPool D b s c p w R) (G := mPP D b s c p w R) rfl (fun _ => rfl) R x h
    unfold mPool at h
    split at h
    · rename_i q
      rw [List.mem_singleton.mp h]
      refine ⟨hk, ?_, ?_, ?_, prt_nn (hp k) (hs k) (by omega)⟩
      · show -1 ≤ (-1 : Int); omega
      · show (-1 : Int) < R; omega
      · exact (div_le_self (hC_bd (D := D) (w := w) hb hs hc hh hk).1 (Int.le_of_lt q) (pU_has (D := D) (w := w) hb hs hh hk)).1
    · cases h
end TD
-- what is told of a match: found k, told at its place
theorem told_of {M : List MTup} {B : Nat → Int} {R : Nat} (hB : ∀ j x, M[j]? = some x → B j = (mKey x : Int)) (hR : ∀ x ∈ M, mKey x < R) {k : Nat} {x : MTup} {pl : Int} (hx : M[k]? = some x) (e : sm (fun j => if B j < B k ∨ (B j = B k ∧ j < k) then 1 else 0) M.length = pl) : 0 ≤ pl ∧ (srt M R)[pl.toNat]? = some x := by
  have h1 := rnk_sm hB hx
  have h2 := srt_get hx (hR x (List.mem_of_getElem? hx))
  rw [e] at h1
  refine ⟨by omega, ?_⟩
  rw [← h1]
  exact h2
theorem told_none {M : List MTup} {B : Nat → Int} {R : Nat} (hB : ∀ j x, M[j]? = some x → B j = (mKey x : Int)) {pl : Int} (h : ∀ k, k < M.length → sm (fun j => if B j < B k ∨ (B j = B k ∧ j < k) then 1 else 0) M.length ≠ pl) : ¬ (0 ≤ pl ∧ pl < (srt M R).length) := by
  rintro ⟨h1, h2⟩
  obtain ⟨i, x, h3, -, h4⟩ := srt_from (M := M) (R := R) (t := pl.toNat) (by omega)
  have h5 := rnk_sm hB h3
  refine h i (List.getElem?_eq_some_iff.mp h3).1 ?_
  rw [← h5, h4]
  omega
section TB
variable {st : Nat → Nat → Int} {v R : Nat} {D : Nat → Int}
theorem bAA_srt : bAA st v R D = srt (bMM st v R D) R := told_made R (Nat.le_refl R)
theorem bAA_len : (bAA st v R D).length = (bMM st v R D).length := made_len.symm
theorem bMM_ok (hB : BV st) (hv : v < 3) (hI : bRow st v R D) {x : MTup} (hx : x ∈ bMM st v R D) : x.1 < R ∧ -1 ≤ x.2.1 ∧ x.2.1 < R ∧ 0 ≤ mco x ∧ 0 ≤ mpr x := by
  obtain ⟨hR6, hso, hDr, hb0, hs0, hc0, hp0, hh0, hnz, -⟩ := hB.RN hv hI
  exact made_ok (fun i => (hb0 i).1) (fun i => (hs0 i).1) (fun i => (hc0 i).1) (fun i => (hp0 i).1) hh0 hx
theorem bMM_sums (hB : BV st) (hv : v < 3) (hI : bRow st v R D) : lsum mco (bMM st v R D) ≤ 60000000 ∧ lsum mpr (bMM st v R D) ≤ 60000000 := by
  obtain ⟨hR6, hso, hDr, hb0, hs0, hc0, hp0, hh0, hnz, hsc, hsp, -⟩ := hB.RN hv hI
  have h1 : lsum mco (bMM st v R D) ≤ _ := made_co (fun i => (hb0 i).1) (fun i => (hs0 i).1) (fun i => (hc0 i).1) hh0
  have h2 : lsum mpr (bMM st v R D) ≤ _ := made_pr (fun i => (hb0 i).1) (fun i => (hs0 i).1) (fun i => (hp0 i).1)
  omega
/-- what a match gives to the gain of a year -/
def gG (D : Nat → Int) (y : Int) (x : MTup) : Int := if D x.1 / 365 = y then mpr x - mco x else 0
theorem gG_bd (hB : BV st) (hv : v < 3) (hI : bRow st v R D) (y : Int) : -60000000 ≤ lsum (gG D y) (bMM st v R D) ∧ lsum (gG D y) (bMM st v R D) ≤ 60000000 := by
  have h1 := bMM_sums hB hv hI
  have h2 := lsum_part (g := mco) (q := fun x : MTup => D x.1 / 365 = y) (l := bMM st v R D) (fun x hx => (bMM_ok hB hv hI hx).2.2.2.1)
  have h3 := lsum_part (g := mpr) (q := fun x : MTup => D x.1 / 365 = y) (l := bMM st v R D) (fun x hx => (bMM_ok hB hv hI hx).2.2.2.2)
  have e : lsum (gG D y) (bMM st v R D) = lsum (fun x => (if D x.1 / 365 = y then mpr x else 0) - (if D x.1 / 365 = y then mco x else 0)) (bMM st v R D) := by
    refine lsum_congr fun x _ => ?_
    unfold gG
    split <;> omega
  rw [e, lsum_sub]
  omega
end TB
-- years
def yG (st : Nat → Nat → Int) (RR : Nat → Nat) (DD : Nat → Nat → Int) (y : Int) (v : Nat) : Int := lsum (gG (DD v) y) (bMM st v (RR v) (DD v))
def yN (st : Nat → Nat → Int) (RR : Nat → Nat) (DD : Nat → Nat → Int) (y : Int) : Int := yG st RR DD y 0 + yG st RR DD y 1 + yG st RR DD y 2
def yA (st : Nat → Nat → Int) (RR : Nat → Nat) (DD : Nat → Nat → Int) (y : Nat) : Int := max 0 (yN st RR DD y - st 10 y)
/-- the losses that are carried into a year -/
def yL (st : Nat → Nat → Int) (RR : Nat → Nat) (DD : Nat → Nat → Int) : Nat → Int
  | 0 => 0
  | y + 1 => if yN st RR DD y < 0 then yL st RR DD y - yN st RR DD y else yL st RR DD y - min (yL st RR DD y) (yA st RR DD y)
def bRows (st : Nat → Nat → Int) (RR : Nat → Nat) (DD : Nat → Nat → Int) : Prop := ∀ v, v < 3 → bRow st v (RR v) (DD v)
section TY9
variable {st st1 : Nat → Nat → Int} {RR : Nat → Nat} {DD : Nat → Nat → Int}
theorem MW.rows (h : MW st st1) (hI : bRows st RR DD) : bRows st1 RR DD := fun v hv => h.row (hI v hv)
theorem MW.G (h : MW st st1) (y : Int) (v : Nat) : yG st1 RR DD y v = yG st RR DD y v := by unfold yG; rw [h.MM]
theorem MW.ny (h : MW st st1) (y : Int) : yN st1 RR DD y = yN st RR DD y := by unfold yN; rw [h.G, h.G, h.G]
theorem MW.A (h : MW st st1) (y : Nat) : yA st1 RR DD y = yA st RR DD y := by unfold yA; rw [h.ny, h.1 10 (by omega) (by omega)]
theorem MW.ly (h : MW st st1) (y : Nat) : yL st1 RR DD y = yL st RR DD y := by
  induction y with
  | zero => rfl
  | succ y ih => rw [yL, yL, ih, h.ny, h.A]
theorem yN_bd (hB : BV st) (hI : bRows st RR DD) (y : Int) : -180000000 ≤ yN st RR DD y ∧ yN st RR DD y ≤ 180000000 := by
  have h0 := gG_bd hB (show 0 < 3 by omega) (hI 0 (by omega)) y
  have h1 := gG_bd hB (show 1 < 3 by omega) (hI 1 (by omega)) y
  have h2 := gG_bd hB (show 2 < 3 by omega) (hI 2 (by omega)) y
  unfold yN yG
  omega
theorem yL_bd (hB : BV st) (hI : bRows st RR DD) (y : Nat) : 0 ≤ yL st RR DD y ∧ yL st RR DD y ≤ y * 180000000 := by
  induction y with
  | zero => exact ⟨Int.le_refl _, by rw [yL]; omega⟩
  | succ y ih =>
    have h1 := yN_bd hB hI y
    have h2 : 0 ≤ yA st RR DD y := by unfold yA; omega
    rw [yL]
    split <;> exact ⟨by omega, by push_cast; omega⟩
end TY9
