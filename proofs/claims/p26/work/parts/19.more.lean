-- more of matching
section MO
variable {D b s c p : Nat → Int} {w : Int} {R : Nat}
theorem mLats_own {k : Nat} : ∀ j, j ≤ k + 1 → mLats D b s c p w k j = [] := by
  intro j
  induction j with
  | zero => intro _; rfl
  | succ j ih =>
    intro h
    rw [mLats, ih (by omega), mLat, utk_no (by omega), if_neg (Int.lt_irrefl 0)]; rfl
theorem mLats_far {k j : Nat} (hD : ∀ r q, r < q → q < R → D r < D q) (hf : w < D j - D k) : ∀ i, j ≤ i → i ≤ R → mLats D b s c p w k i = mLats D b s c p w k j := by
  intro i
  induction i with
  | zero => intro h _; rw [show j = 0 by omega]
  | succ i ih =>
    intro h hi
    rcases Nat.lt_or_ge i j with q | q
    · rw [show j = i + 1 by omega]
    · rw [mLats, mLat, utk_far hD hf i q (by omega), if_neg (Int.lt_irrefl 0), List.append_nil, ih q (by omega)]
theorem pU_le (hb : ∀ j, 0 ≤ b j) (hs : ∀ j, 0 ≤ s j) (r : Nat) : pU D b s w R r ≤ sm b r := by
  rw [pU_sum]
  refine sm_le fun i _ => ?_
  have h1 := blw_le (D := D) (w := w) hb hs R i
  have h2 := (left_nn (D := D) (w := w) hb hs i).2 R
  have h3 := hb i
  have h4 := hs i
  omega
end MO
/-- a ledger holds what its share's trades lead to: lg its cells, v the share, wd the window -/
def LOK (sa ca sh dy ct mo SD SF : Nat → Int) (n mm : Nat) (v wd : Int) (lg : Nat → Nat → Int) : Prop :=
  ∃ R : Nat, IsR (lvb ca sh v) dy n R (lg 5) ∧ RC lg R (lg 5) (qB (lvb ca sh v) sa dy (uni ct dy SD SF mm) n (lg 5)) (qB (lvb ca sh v) sa dy mo n (lg 5)) (qS (lvb ca sh v) sa dy (uni ct dy SD SF mm) n (lg 5)) (qS (lvb ca sh v) sa dy mo n (lg 5)) ∧
    AL lg (lg 5) (mAll (lg 5) (qB (lvb ca sh v) sa dy (uni ct dy SD SF mm) n (lg 5)) (qS (lvb ca sh v) sa dy (uni ct dy SD SF mm) n (lg 5)) (qB (lvb ca sh v) sa dy mo n (lg 5)) (qS (lvb ca sh v) sa dy mo n (lg 5)) wd R R) ∧
    ∀ r, r < R → lg 12 r = pU (lg 5) (qB (lvb ca sh v) sa dy (uni ct dy SD SF mm) n (lg 5)) (qS (lvb ca sh v) sa dy (uni ct dy SD SF mm) n (lg 5)) wd R (r + 1) ∧ lg 13 r = pC (lg 5) (qB (lvb ca sh v) sa dy (uni ct dy SD SF mm) n (lg 5)) (qS (lvb ca sh v) sa dy (uni ct dy SD SF mm) n (lg 5)) (qB (lvb ca sh v) sa dy mo n (lg 5)) wd R (r + 1)
