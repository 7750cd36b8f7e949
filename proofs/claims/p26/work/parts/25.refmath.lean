-- the reference's numbers
def hsum (L : Nat → Bool) (sa dy u : Nat → Int) (n : Nat) (d : Int) : Int := sm (fun k => if L k = true ∧ dy k ≤ d then (if sa k = 0 then u k else -u k) else 0) n
theorem hsum_eq (L : Nat → Bool) (sa dy u : Nat → Int) (n : Nat) (d : Int) : hsum L sa dy u n d = hold L sa dy u n d := by
  unfold hsum hold wupto
  rw [← sm_sub]
  refine sm_congr fun k _ => ?_
  unfold wB wS
  by_cases q : L k = true ∧ dy k ≤ d
  · rw [if_pos q, if_pos q, if_pos q]; split <;> omega
  · rw [if_neg q, if_neg q, if_neg q]; rfl
theorem hold_bd {sa ca sh dy ct mo SD SF : Nat → Int} {n m : Nat} {v : Int} (hJ : JV sa ca sh dy ct mo n) (hS : SPV SD SF m) (d : Int) : -37500000 ≤ hold (lvb ca sh v) sa dy (uni ct dy SD SF m) n d ∧ hold (lvb ca sh v) sa dy (uni ct dy SD SF m) n d ≤ 37500000 := by
  rw [← hsum_eq]
  have hn := hJ.1
  have h1 : ∀ k, k < n → -625000 ≤ (if lvb ca sh v k = true ∧ dy k ≤ d then (if sa k = 0 then uni ct dy SD SF m k else -uni ct dy SD SF m k) else 0) ∧ (if lvb ca sh v k = true ∧ dy k ≤ d then (if sa k = 0 then uni ct dy SD SF m k else -uni ct dy SD SF m k) else 0) ≤ 625000 := by
    intro k hk
    have := uni_bd hJ hS hk
    split
    · split <;> omega
    · omega
  have h2 := sm_bd (fun k hk => (h1 k hk).2)
  have h3 := sm_bdl (fun k hk => (h1 k hk).1)
  unfold hsum
  omega
theorem wsum_none {L : Nat → Bool} {dy w : Nat → Int} {k : Nat} {d : Int} (h : ∀ i, i < k → ¬ (L i = true ∧ dy i = d)) : wsum L dy w k d = 0 :=
  sm_zero fun i hi => if_neg (h i hi)
