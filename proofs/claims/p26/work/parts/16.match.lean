-- matching: what is left of buys and sales, the matches, the pool
section MT
variable {D b s c p : Nat → Int} {w : Int} {R : Nat}
/-- what is left of a sale ahead of the buy j, in its own turn -/
def slw (D bl : Nat → Int) (w : Int) (k : Nat) (s0 : Int) : Nat → Int
  | 0 => s0
  | j + 1 => slw D bl w k s0 j - (if k < j ∧ D j - D k ≤ w then min (bl j) (slw D bl w k s0 j) else 0)
/-- what is left of the buys ahead of the sale k's turn -/
def blw (D b s : Nat → Int) (w : Int) : Nat → Nat → Int
  | 0, j => b j - min (b j) (s j)
  | k + 1, j => blw D b s w k j - (if k < j ∧ D j - D k ≤ w then min (blw D b s w k j) (slw D (blw D b s w k) w k (s k - min (b k) (s k)) j) else 0)
def slft (D b s : Nat → Int) (w : Int) (k j : Nat) : Int := slw D (blw D b s w k) w k (s k - min (b k) (s k)) j
/-- what the sale k takes of the buy j -/
def utk (D b s : Nat → Int) (w : Int) (k j : Nat) : Int := if k < j ∧ D j - D k ≤ w then min (blw D b s w k j) (slft D b s w k j) else 0
theorem slft_0 (D b s : Nat → Int) (w : Int) (k : Nat) : slft D b s w k 0 = s k - min (b k) (s k) := rfl
theorem slft_s (D b s : Nat → Int) (w : Int) (k j : Nat) : slft D b s w k (j + 1) = slft D b s w k j - utk D b s w k j := rfl
theorem blw_0 (D b s : Nat → Int) (w : Int) (j : Nat) : blw D b s w 0 j = b j - min (b j) (s j) := rfl
theorem blw_s (D b s : Nat → Int) (w : Int) (k j : Nat) : blw D b s w (k + 1) j = blw D b s w k j - utk D b s w k j := rfl
theorem utk_no {k j : Nat} (h : ¬ (k < j ∧ D j - D k ≤ w)) : utk D b s w k j = 0 := if_neg h
theorem utk_yes {k j : Nat} (h1 : k < j) (h2 : D j - D k ≤ w) : utk D b s w k j = min (blw D b s w k j) (slft D b s w k j) := if_pos ⟨h1, h2⟩
/-- nothing falls below 0 -/
theorem left_nn (hb : ∀ j, 0 ≤ b j) (hs : ∀ j, 0 ≤ s j) : ∀ k, (∀ j, 0 ≤ blw D b s w k j) ∧ ∀ j, 0 ≤ slft D b s w k j := by
  have sl : ∀ k, (∀ j, 0 ≤ blw D b s w k j) → ∀ j, 0 ≤ slft D b s w k j := by
    intro k hk j
    induction j with
    | zero => rw [slft_0]; have := hb k; have := hs k; omega
    | succ j ih =>
      rw [slft_s]
      by_cases q : k < j ∧ D j - D k ≤ w
      · rw [utk_yes q.1 q.2]; have := hk j; omega
      · rw [utk_no q]; omega
  intro k
  induction k with
  | zero =>
    have h0 : ∀ j, 0 ≤ blw D b s w 0 j := fun j => by rw [blw_0]; have := hb j; have := hs j; omega
    exact ⟨h0, sl 0 h0⟩
  | succ k ih =>
    have h0 : ∀ j, 0 ≤ blw D b s w (k + 1) j := by
      intro j
      rw [blw_s]
      by_cases q : k < j ∧ D j - D k ≤ w
      · rw [utk_yes q.1 q.2]; have := ih.1 j; omega
      · rw [utk_no q]; have := ih.1 j; omega
    exact ⟨h0, sl (k + 1) h0⟩
theorem utk_bd (hb : ∀ j, 0 ≤ b j) (hs : ∀ j, 0 ≤ s j) (k j : Nat) : 0 ≤ utk D b s w k j ∧ utk D b s w k j ≤ blw D b s w k j ∧ utk D b s w k j ≤ slft D b s w k j := by
  have h1 := (left_nn (D := D) (w := w) hb hs k).1 j
  have h2 := (left_nn (D := D) (w := w) hb hs k).2 j
  by_cases q : k < j ∧ D j - D k ≤ w
  · rw [utk_yes q.1 q.2]; omega
  · rw [utk_no q]; omega
theorem blw_le (hb : ∀ j, 0 ≤ b j) (hs : ∀ j, 0 ≤ s j) (k j : Nat) : blw D b s w k j ≤ b j - min (b j) (s j) := by
  induction k with
  | zero => rw [blw_0]; exact Int.le_refl _
  | succ k ih => rw [blw_s]; have := (utk_bd (D := D) (w := w) hb hs k j).1; omega
theorem slft_le (hb : ∀ j, 0 ≤ b j) (hs : ∀ j, 0 ≤ s j) (k j : Nat) : slft D b s w k j ≤ s k - min (b k) (s k) := by
  induction j with
  | zero => rw [slft_0]; exact Int.le_refl _
  | succ j ih => rw [slft_s]; have := (utk_bd (D := D) (w := w) hb hs k j).1; omega
/-- a buy isn't touched by sales of its own day and of later ones -/
theorem blw_own {j : Nat} : ∀ k, j ≤ k → blw D b s w k j = blw D b s w j j := by
  intro k
  induction k with
  | zero => intro h; rw [show j = 0 by omega]
  | succ k ih =>
    intro h
    rcases Nat.lt_or_ge k j with q | q
    · rw [show j = k + 1 by omega]
    · rw [blw_s, utk_no (by omega), ih q]; omega
/-- a sale isn't touched by buys up to its own day -/
theorem slft_own {k : Nat} : ∀ j, j ≤ k + 1 → slft D b s w k j = s k - min (b k) (s k) := by
  intro j
  induction j with
  | zero => intro _; exact slft_0 ..
  | succ j ih => intro h; rw [slft_s, utk_no (by omega), ih (by omega)]; omega
/-- behind the first day that lies too far nothing more is taken -/
theorem utk_far {k j : Nat} (hD : ∀ r q, r < q → q < R → D r < D q) (hf : w < D j - D k) (i : Nat) (hji : j ≤ i) (hi : i < R) : utk D b s w k i = 0 := by
  refine utk_no fun h => ?_
  rcases Nat.lt_or_ge j i with q | q
  · have := hD j i q hi; omega
  · rw [show i = j by omega] at h; omega
theorem slft_far {k j : Nat} (hD : ∀ r q, r < q → q < R → D r < D q) (hf : w < D j - D k) : ∀ i, j ≤ i → i ≤ R → slft D b s w k i = slft D b s w k j := by
  intro i
  induction i with
  | zero => intro h _; rw [show j = 0 by omega]
  | succ i ih =>
    intro h hi
    rcases Nat.lt_or_ge i j with q | q
    · rw [show j = i + 1 by omega]
    · rw [slft_s, utk_far hD hf i q (by omega), ih q (by omega)]; omega
/-- a part of money c for q units: f are gone, u come -/
def prt (c q f u : Int) : Int := c * (f + u) / q - c * f / q
theorem prt_0 (c q u : Int) : prt c q 0 u = c * u / q := by unfold prt; rw [Int.mul_zero, Int.zero_ediv, Int.zero_add]; omega
theorem prt_none (c q f : Int) : prt c q f 0 = 0 := by unfold prt; rw [Int.add_zero]; omega
theorem prt_nn {c q f u : Int} (hc : 0 ≤ c) (hq : 0 ≤ q) (hu : 0 ≤ u) : 0 ≤ prt c q f u := by
  unfold prt
  rcases Int.lt_or_eq_of_le hq with h | h
  · have : c * f / q ≤ c * (f + u) / q := Int.ediv_le_ediv h (Int.mul_le_mul_of_nonneg_left (by omega) hc)
    omega
  · rw [← h]; simp
theorem prt_le {c q f u : Int} (hc : 0 ≤ c) (hf : 0 ≤ f) (hu : 0 ≤ u) (hq : f + u ≤ q) : prt c q f u ≤ c := by
  unfold prt
  rcases Int.lt_or_eq_of_le (show 0 ≤ q by omega) with h | h
  · have h1 : c * (f + u) / q ≤ c * q / q := Int.ediv_le_ediv h (Int.mul_le_mul_of_nonneg_left hq hc)
    rw [Int.mul_ediv_cancel _ (by omega)] at h1
    have h2 : 0 ≤ c * f / q := Int.ediv_nonneg (Int.mul_nonneg hc hf) (by omega)
    omega
  · rw [← h]; simp; exact hc
theorem div_le_self {c u q : Int} (hc : 0 ≤ c) (hu : 0 ≤ u) (hq : u ≤ q) : 0 ≤ c * u / q ∧ c * u / q ≤ c := by
  have h1 := prt_nn (f := 0) hc (show 0 ≤ q by omega) hu
  have h2 := prt_le (q := q) (f := 0) hc (Int.le_refl 0) hu (by omega)
  rw [prt_0] at h1 h2
  exact ⟨h1, h2⟩
/-- a match: the row of its sale, of its buy (-1: the pool), kind, units, cost, proceeds -/
abbrev MTup : Type := Nat × Int × Int × Int × Int × Int
def mSame (b s c p : Nat → Int) (k : Nat) : List MTup := if 0 < min (b k) (s k) then [(k, (k : Int), 0, min (b k) (s k), prt (c k) (b k) 0 (min (b k) (s k)), prt (p k) (s k) 0 (min (b k) (s k)))] else []
def mLat (D b s c p : Nat → Int) (w : Int) (k j : Nat) : List MTup := if 0 < utk D b s w k j then [(k, (j : Int), 1, utk D b s w k j, prt (c j) (b j) (b j - blw D b s w k j) (utk D b s w k j), prt (p k) (s k) (s k - slft D b s w k j) (utk D b s w k j))] else []
def mLats (D b s c p : Nat → Int) (w : Int) (k : Nat) : Nat → List MTup
  | 0 => []
  | j + 1 => mLats D b s c p w k j ++ mLat D b s c p w k j
/-- the pool behind row r - 1: units and cost -/
def pU (D b s : Nat → Int) (w : Int) (R : Nat) : Nat → Int
  | 0 => 0
  | r + 1 => pU D b s w R r + blw D b s w R r - slft D b s w r R
def pC (D b s c : Nat → Int) (w : Int) (R : Nat) : Nat → Int
  | 0 => 0
  | r + 1 => (pC D b s c w R r + prt (c r) (b r) (b r - blw D b s w R r) (blw D b s w R r)) - (if 0 < slft D b s w r R then (pC D b s c w R r + prt (c r) (b r) (b r - blw D b s w R r) (blw D b s w R r)) * slft D b s w r R / (pU D b s w R r + blw D b s w R r) else 0)
/-- the cost in the pool when row r's sale comes, and what it takes -/
def hC (D b s c : Nat → Int) (w : Int) (R r : Nat) : Int := pC D b s c w R r + prt (c r) (b r) (b r - blw D b s w R r) (blw D b s w R r)
def tkC (D b s c : Nat → Int) (w : Int) (R r : Nat) : Int := hC D b s c w R r * slft D b s w r R / (pU D b s w R r + blw D b s w R r)
theorem pC_s (D b s c : Nat → Int) (w : Int) (R r : Nat) : pC D b s c w R (r + 1) = hC D b s c w R r - (if 0 < slft D b s w r R then tkC D b s c w R r else 0) := rfl
theorem pU_s (D b s : Nat → Int) (w : Int) (R r : Nat) : pU D b s w R (r + 1) = pU D b s w R r + blw D b s w R r - slft D b s w r R := rfl
def mPool (D b s c p : Nat → Int) (w : Int) (R r : Nat) : List MTup := if 0 < slft D b s w r R then [(r, -1, 2, slft D b s w r R, tkC D b s c w R r, prt (p r) (s r) (s r - slft D b s w r R) (slft D b s w r R))] else []
/-- the matches in the order in which they are told -/
def mAll (D b s c p : Nat → Int) (w : Int) (R : Nat) : Nat → List MTup
  | 0 => []
  | r + 1 => mAll D b s c p w R r ++ (mSame b s c p r ++ (mLats D b s c p w r R ++ mPool D b s c p w R r))
-- how many
def nz (x : Int) : Nat := if 0 < x then 1 else 0
theorem mSame_len (hb : ∀ j, 0 ≤ b j) (hs : ∀ j, 0 ≤ s j) (k : Nat) : (mSame b s c p k).length + nz (b k - min (b k) (s k)) + nz (s k - min (b k) (s k)) ≤ nz (b k) + nz (s k) := by
  have := hb k; have := hs k
  unfold mSame nz
  by_cases q : 0 < min (b k) (s k)
  · rw [if_pos q, if_pos (show 0 < b k by omega), if_pos (show 0 < s k by omega)]
    simp only [List.length_cons, List.length_nil]
    rcases (show b k ≤ s k ∨ s k ≤ b k by omega) with z | z
    · rw [if_neg (show ¬ 0 < b k - min (b k) (s k) by omega)]; split <;> omega
    · rw [if_neg (show ¬ 0 < s k - min (b k) (s k) by omega)]; split <;> omega
  · rw [if_neg q, show min (b k) (s k) = 0 by omega, Int.sub_zero, Int.sub_zero]; simp
theorem mLat_len (hb : ∀ j, 0 ≤ b j) (hs : ∀ j, 0 ≤ s j) (k j : Nat) : (mLat D b s c p w k j).length + nz (blw D b s w (k + 1) j) + nz (slft D b s w k (j + 1)) ≤ nz (blw D b s w k j) + nz (slft D b s w k j) := by
  have h1 := (left_nn (D := D) (w := w) hb hs k).1 j
  have h2 := (left_nn (D := D) (w := w) hb hs k).2 j
  rw [blw_s, slft_s]
  unfold mLat
  by_cases q : k < j ∧ D j - D k ≤ w
  · have e := utk_yes (b := b) (s := s) q.1 q.2
    by_cases z : 0 < utk D b s w k j
    · rw [if_pos z]
      unfold nz
      simp only [List.length_cons, List.length_nil]
      rw [if_pos (show 0 < blw D b s w k j by omega), if_pos (show 0 < slft D b s w k j by omega)]
      rcases (show blw D b s w k j ≤ slft D b s w k j ∨ slft D b s w k j ≤ blw D b s w k j by omega) with y | y
      · rw [if_neg (show ¬ 0 < blw D b s w k j - utk D b s w k j by omega)]; split <;> omega
      · rw [if_neg (show ¬ 0 < slft D b s w k j - utk D b s w k j by omega)]; split <;> omega
    · rw [if_neg z, show utk D b s w k j = 0 by omega, Int.sub_zero, Int.sub_zero]; simp
  · rw [utk_no q, if_neg (Int.lt_irrefl 0), Int.sub_zero, Int.sub_zero]; simp
def nsm (f : Nat → Nat) : Nat → Nat | 0 => 0 | n + 1 => nsm f n + f n
theorem nsm_le {f g : Nat → Nat} {n : Nat} (h : ∀ k, k < n → f k ≤ g k) : nsm f n ≤ nsm g n := by
  induction n with
  | zero => exact Nat.le_refl _
  | succ n ih => have h1 := ih (fun k hk => h k (by omega)); have h2 := h n (by omega); simp only [nsm]; omega
theorem nsm_add (f g : Nat → Nat) (n : Nat) : nsm (fun k => f k + g k) n = nsm f n + nsm g n := by
  induction n with
  | zero => rfl
  | succ n ih => simp only [nsm, ih]; omega
theorem mLats_len (hb : ∀ j, 0 ≤ b j) (hs : ∀ j, 0 ≤ s j) (k m : Nat) : (mLats D b s c p w k m).length + nsm (fun j => nz (blw D b s w (k + 1) j)) m + nz (slft D b s w k m) ≤ nsm (fun j => nz (blw D b s w k j)) m + nz (s k - min (b k) (s k)) := by
  induction m with
  | zero => simp [mLats, nsm, slft_0]
  | succ m ih =>
    have := mLat_len (D := D) (w := w) (c := c) (p := p) hb hs k m
    simp only [mLats, List.length_append, nsm]
    omega
theorem mPool_len (r : Nat) : (mPool D b s c p w R r).length = nz (slft D b s w r R) := by
  unfold mPool nz; split <;> rfl
theorem mAll_len (hb : ∀ j, 0 ≤ b j) (hs : ∀ j, 0 ≤ s j) (r : Nat) : (mAll D b s c p w R r).length + nsm (fun j => nz (blw D b s w r j)) R + nsm (fun k => nz (b k - min (b k) (s k)) + nz (s k - min (b k) (s k))) r ≤ nsm (fun k => nz (b k) + nz (s k)) r + nsm (fun k => nz (s k - min (b k) (s k))) r + nsm (fun j => nz (blw D b s w 0 j)) R := by
  induction r with
  | zero => simp [mAll, nsm]
  | succ r ih =>
    have h1 := mSame_len (c := c) (p := p) hb hs r
    have h2 := mLats_len (D := D) (w := w) (c := c) (p := p) hb hs r R
    have h3 := mPool_len (D := D) (b := b) (s := s) (c := c) (p := p) (w := w) (R := R) r
    simp only [mAll, List.length_append, nsm]
    omega
theorem mAll_le (hb : ∀ j, 0 ≤ b j) (hs : ∀ j, 0 ≤ s j) : (mAll D b s c p w R R).length ≤ nsm (fun k => nz (b k) + nz (s k)) R := by
  have h1 := mAll_len (D := D) (w := w) (c := c) (p := p) (R := R) hb hs R
  have h2 := nsm_add (fun k => nz (b k - min (b k) (s k))) (fun k => nz (s k - min (b k) (s k))) R
  have h3 : nsm (fun j => nz (blw D b s w 0 j)) R = nsm (fun k => nz (b k - min (b k) (s k))) R := rfl
  omega
theorem mAll_pre (r q : Nat) (h : r ≤ q) : (mAll D b s c p w R r).length ≤ (mAll D b s c p w R q).length := by
  induction q with
  | zero => rw [show r = 0 by omega]; exact Nat.le_refl _
  | succ q ih =>
    rcases Nat.lt_or_ge r (q + 1) with z | z
    · have := ih (by omega); simp only [mAll, List.length_append]; omega
    · rw [show r = q + 1 by omega]; exact Nat.le_refl _
theorem mLats_pre (k i j : Nat) (h : i ≤ j) : (mLats D b s c p w k i).length ≤ (mLats D b s c p w k j).length := by
  induction j with
  | zero => rw [show i = 0 by omega]; exact Nat.le_refl _
  | succ j ih =>
    rcases Nat.lt_or_ge i (j + 1) with z | z
    · have := ih (by omega); simp only [mLats, List.length_append]; omega
    · rw [show i = j + 1 by omega]; exact Nat.le_refl _
-- the pool holds what a sale takes
theorem pool_key (hb : ∀ j, 0 ≤ b j) (hs : ∀ j, 0 ≤ s j) {r : Nat} (hr : r < R) : ∀ K, K ≤ R → sm (fun i => b i - s i) (r + 1) ≤ sm (fun i => blw D b s w K i) (r + 1) - sm (fun i => if i < K then slft D b s w i R else s i - min (b i) (s i)) (r + 1) := by
  intro K
  induction K with
  | zero =>
    intro _
    rw [← sm_sub]
    refine sm_le fun i hi => ?_
    rw [blw_0, if_neg (by omega)]; omega
  | succ K ih =>
    intro hK
    have h1 := ih (by omega)
    have eb : sm (fun i => blw D b s w (K + 1) i) (r + 1) = sm (fun i => blw D b s w K i) (r + 1) - sm (fun i => utk D b s w K i) (r + 1) := by
      rw [← sm_sub]; exact sm_congr fun i _ => blw_s ..
    have tele : ∀ m, slft D b s w K m = (s K - min (b K) (s K)) - sm (fun i => utk D b s w K i) m := by
      intro m
      induction m with
      | zero => rw [slft_0]; simp [sm]
      | succ m ih2 => rw [slft_s, ih2, sm]; omega
    by_cases q : K ≤ r
    · have es : sm (fun i => if i < K + 1 then slft D b s w i R else s i - min (b i) (s i)) (r + 1) = sm (fun i => if i < K then slft D b s w i R else s i - min (b i) (s i)) (r + 1) + (slft D b s w K R - (s K - min (b K) (s K))) := by
        have e1 : sm (fun i => (if i < K + 1 then slft D b s w i R else s i - min (b i) (s i)) - (if i < K then slft D b s w i R else s i - min (b i) (s i))) (r + 1) = slft D b s w K R - (s K - min (b K) (s K)) := by
          rw [sm_one (i := K) (by omega) (fun k _ hn => ?_)]
          · rw [if_pos (by omega), if_neg (by omega)]
          · by_cases z : k < K
            · rw [if_pos (by omega), if_pos z]; omega
            · rw [if_neg (by omega), if_neg z]; omega
        rw [sm_sub] at e1
        omega
      have h2 := tele R
      have h3 : sm (fun i => utk D b s w K i) (r + 1) ≤ sm (fun i => utk D b s w K i) R := sm_mono (fun k _ => (utk_bd hb hs K k).1) (by omega)
      rw [eb, es]; omega
    · have es : sm (fun i => if i < K + 1 then slft D b s w i R else s i - min (b i) (s i)) (r + 1) = sm (fun i => if i < K then slft D b s w i R else s i - min (b i) (s i)) (r + 1) := sm_congr fun i hi => by rw [if_pos (by omega), if_pos (by omega)]
      have h3 : sm (fun i => utk D b s w K i) (r + 1) = 0 := sm_zero fun i hi => utk_no (by omega)
      rw [eb, es, h3]; omega
theorem pU_sum (r : Nat) : pU D b s w R r = sm (fun i => blw D b s w R i - slft D b s w i R) r := by
  induction r with
  | zero => rfl
  | succ r ih => rw [pU_s, ih, sm]; omega
theorem pU_nn (hb : ∀ j, 0 ≤ b j) (hs : ∀ j, 0 ≤ s j) (hh : ∀ r, r < R → 0 ≤ sm (fun i => b i - s i) (r + 1)) : ∀ r, r ≤ R → 0 ≤ pU D b s w R r := by
  intro r hr
  cases r with
  | zero => exact Int.le_refl _
  | succ r =>
    have h1 := pool_key (D := D) (w := w) hb hs (show r < R by omega) R (Nat.le_refl R)
    have h2 := hh r (by omega)
    have h3 : sm (fun i => if i < R then slft D b s w i R else s i - min (b i) (s i)) (r + 1) = sm (fun i => slft D b s w i R) (r + 1) := sm_congr fun i hi => by rw [if_pos (by omega)]
    have h4 : sm (blw D b s w R) (r + 1) = sm (fun i => blw D b s w R i) (r + 1) := rfl
    rw [pU_sum, sm_sub]
    rw [h3] at h1
    omega
theorem pU_has (hb : ∀ j, 0 ≤ b j) (hs : ∀ j, 0 ≤ s j) (hh : ∀ r, r < R → 0 ≤ sm (fun i => b i - s i) (r + 1)) {r : Nat} (hr : r < R) : slft D b s w r R ≤ pU D b s w R r + blw D b s w R r := by
  have h1 := pU_nn (D := D) (w := w) hb hs hh (r + 1) hr
  rw [pU_s] at h1
  omega
theorem pC_bd (hb : ∀ j, 0 ≤ b j) (hs : ∀ j, 0 ≤ s j) (hc : ∀ j, 0 ≤ c j) (hh : ∀ r, r < R → 0 ≤ sm (fun i => b i - s i) (r + 1)) : ∀ r, r ≤ R → 0 ≤ pC D b s c w R r ∧ pC D b s c w R r ≤ sm c r := by
  intro r
  induction r with
  | zero => intro _; exact ⟨Int.le_refl _, Int.le_refl _⟩
  | succ r ih =>
    intro hr
    obtain ⟨h1, h2⟩ := ih (by omega)
    have a1 := (left_nn (D := D) (w := w) hb hs R).1 r
    have a2 := blw_le (D := D) (w := w) hb hs R r
    have a3 := hb r
    have a4 := hs r
    have g1 := prt_nn (f := b r - blw D b s w R r) (hc r) (hb r) a1
    have g2 := prt_le (q := b r) (f := b r - blw D b s w R r) (hc r) (by omega) a1 (by omega)
    have e : hC D b s c w R r = pC D b s c w R r + prt (c r) (b r) (b r - blw D b s w R r) (blw D b s w R r) := rfl
    rw [pC_s, sm_succ]
    by_cases q : 0 < slft D b s w r R
    · rw [if_pos q]
      have g3 := div_le_self (c := hC D b s c w R r) (by omega) (Int.le_of_lt q) (pU_has (D := D) (w := w) hb hs hh (show r < R by omega))
      have e2 : tkC D b s c w R r = hC D b s c w R r * slft D b s w r R / (pU D b s w R r + blw D b s w R r) := rfl
      omega
    · rw [if_neg q]; omega
theorem hC_bd (hb : ∀ j, 0 ≤ b j) (hs : ∀ j, 0 ≤ s j) (hc : ∀ j, 0 ≤ c j) (hh : ∀ r, r < R → 0 ≤ sm (fun i => b i - s i) (r + 1)) {r : Nat} (hr : r < R) : 0 ≤ hC D b s c w R r ∧ hC D b s c w R r ≤ sm c (r + 1) := by
  obtain ⟨h1, h2⟩ := pC_bd (D := D) (w := w) hb hs hc hh r (by omega)
  have a1 := (left_nn (D := D) (w := w) hb hs R).1 r
  have a2 := blw_le (D := D) (w := w) hb hs R r
  have a3 := hb r
  have a4 := hs r
  have g1 := prt_nn (f := b r - blw D b s w R r) (hc r) (hb r) a1
  have g2 := prt_le (q := b r) (f := b r - blw D b s w R r) (hc r) (by omega) a1 (by omega)
  have e : hC D b s c w R r = pC D b s c w R r + prt (c r) (b r) (b r - blw D b s w R r) (blw D b s w R r) := rfl
  rw [sm_succ]; omega
end MT
