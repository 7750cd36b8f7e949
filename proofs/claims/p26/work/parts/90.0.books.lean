-- the books of matches
def X0b : Nat → Nat → Int := ev_b 30 [] [] [] [] [] [] [] [] [] []
theorem X0_start : XI sX0 X0b := by
  refine XI_start rfl rfl (fun _ => rfl) (fun _ => rfl) rfl rfl (fun _ => rfl) (fun _ => rfl) (fun v hv => ?_)
  rcases (show v = 0 ∨ v = 1 ∨ v = 2 by omega) with rfl | rfl | rfl <;> exact ⟨rfl, rfl, rfl, rfl⟩
def bm0 : Nat → Nat → Int := ev_b 30 [] [] [] [] [] [] [0, 0, 0] [0, 0, 0, 0, 0, 0, 0, 0, 0, 0, 0, 0] [0, 0, 0, 0, 0, 0, 0, 0, 0, 0, 0, 0] [0, 0, 0, 0, 0]
theorem bm0_rf2 : ev_rf bm0 2 [] [] [] [] [] [] [0] [0] = true := by decide +kernel
theorem bm0_rf0 : ev_rf bm0 0 [] [] [] [] [] [] [0] [0] = true := by decide +kernel
theorem bm0_rf1 : ev_rf bm0 1 [] [] [] [] [] [] [0] [0] = true := by decide +kernel
theorem bm0_ye {x : Nat → Nat → Int} (hX : XI x bm0) : YE x bm0 [0, 0, 0, 0, 0] [0, 0, 0, 0, 0] := YE.of (ev_see hX (by decide) bm0_rf0) (ev_see hX (by decide) bm0_rf1) (ev_see hX (by decide) bm0_rf2) (by decide +kernel)
def bm1 : Nat → Nat → Int := ev_b 30 [0] [10] [100] [1000] [0] [0] [0, 0, 0] [0, 0, 0, 0, 0, 0, 0, 0, 0, 0, 0, 0] [0, 0, 0, 0, 0, 0, 0, 0, 0, 0, 0, 0] [0, 0, 0, 0, 0]
theorem bm1_eq : BEq (entM bm0 ((0 : Nat) : Int) 10 100 1000 0) bm1 := ev_eq_ok (by decide +kernel)
def bm2 : Nat → Nat → Int := ev_b 30 [0, 0] [10, 20] [100, 40] [1000, 600] [0, 1] [0, 0] [0, 0, 0] [0, 0, 0, 0, 0, 0, 0, 0, 0, 0, 0, 0] [0, 0, 0, 0, 0, 0, 0, 0, 0, 0, 0, 0] [0, 0, 0, 0, 0]
theorem bm2_eq : BEq (entM bm1 ((0 : Nat) : Int) 20 40 600 1) bm2 := ev_eq_ok (by decide +kernel)
theorem bm2_rf0 : ev_rf bm2 0 [10, 20] [100, 0] [1000, 0] [0, 40] [0, 600] [(1, (-1), 2, 40, 400, 600)] [0, 100, 60] [0, 1000, 600] = true := by decide +kernel
def bm3 : Nat → Nat → Int := ev_b 30 [0, 0, 0] [10, 20, 25] [100, 40, 30] [1000, 600, 450] [0, 1, 0] [0, 0, 0] [0, 0, 0] [0, 0, 0, 0, 0, 0, 0, 0, 0, 0, 0, 0] [0, 0, 0, 0, 0, 0, 0, 0, 0, 0, 0, 0] [0, 0, 0, 0, 0]
theorem bm3_eq : BEq (entM bm2 ((0 : Nat) : Int) 25 30 450 0) bm3 := ev_eq_ok (by decide +kernel)
theorem bm3_rf0 : ev_rf bm3 0 [10, 20, 25] [100, 0, 30] [1000, 0, 450] [0, 40, 0] [0, 600, 0] [(1, 2, 1, 30, 450, 450), (1, (-1), 2, 10, 100, 150)] [0, 100, 90, 90] [0, 1000, 900, 900] = true := by decide +kernel
def bm4 : Nat → Nat → Int := ev_b 30 [0, 0, 0, 0] [10, 20, 25, 20] [100, 40, 30, 5] [1000, 600, 450, 70] [0, 1, 0, 0] [0, 0, 0, 0] [0, 0, 0] [0, 0, 0, 0, 0, 0, 0, 0, 0, 0, 0, 0] [0, 0, 0, 0, 0, 0, 0, 0, 0, 0, 0, 0] [0, 0, 0, 0, 0]
theorem bm4_eq : BEq (entM bm3 ((0 : Nat) : Int) 20 5 70 0) bm4 := ev_eq_ok (by decide +kernel)
theorem bm4_rf0 : ev_rf bm4 0 [10, 20, 25] [100, 5, 30] [1000, 70, 450] [0, 40, 0] [0, 600, 0] [(1, 1, 0, 5, 70, 75), (1, 2, 1, 30, 450, 450), (1, (-1), 2, 5, 50, 75)] [0, 100, 95, 95] [0, 1000, 950, 950] = true := by decide +kernel
theorem bm4_rf1 : ev_rf bm4 1 [] [] [] [] [] [] [0] [0] = true := by decide +kernel
theorem bm4_rf2 : ev_rf bm4 2 [] [] [] [] [] [] [0] [0] = true := by decide +kernel
theorem bm4_ye {x : Nat → Nat → Int} (hX : XI x bm4) : YE x bm4 [30, 0, 0, 0, 0] [0, 0, 0, 0, 0] := YE.of (ev_see hX (by decide) bm4_rf0) (ev_see hX (by decide) bm4_rf1) (ev_see hX (by decide) bm4_rf2) (by decide +kernel)
def bm5 : Nat → Nat → Int := ev_b 4 [0, 0, 0, 0] [10, 20, 25, 20] [100, 40, 30, 5] [1000, 600, 450, 70] [0, 1, 0, 0] [0, 0, 0, 0] [0, 0, 0] [0, 0, 0, 0, 0, 0, 0, 0, 0, 0, 0, 0] [0, 0, 0, 0, 0, 0, 0, 0, 0, 0, 0, 0] [0, 0, 0, 0, 0]
theorem bm5_eq : BEq (winM bm4 4) bm5 := ev_eq_ok (by decide +kernel)
theorem bm5_rf0 : ev_rf bm5 0 [10, 20, 25] [100, 5, 30] [1000, 70, 450] [0, 40, 0] [0, 600, 0] [(1, 1, 0, 5, 70, 75), (1, (-1), 2, 35, 350, 525)] [0, 100, 65, 95] [0, 1000, 650, 1100] = true := by decide +kernel
def bm6 : Nat → Nat → Int := ev_b 5 [0, 0, 0, 0] [10, 20, 25, 20] [100, 40, 30, 5] [1000, 600, 450, 70] [0, 1, 0, 0] [0, 0, 0, 0] [0, 0, 0] [0, 0, 0, 0, 0, 0, 0, 0, 0, 0, 0, 0] [0, 0, 0, 0, 0, 0, 0, 0, 0, 0, 0, 0] [0, 0, 0, 0, 0]
theorem bm6_eq : BEq (winM bm5 5) bm6 := ev_eq_ok (by decide +kernel)
theorem bm6_rf0 : ev_rf bm6 0 [10, 20, 25] [100, 5, 30] [1000, 70, 450] [0, 40, 0] [0, 600, 0] [(1, 1, 0, 5, 70, 75), (1, 2, 1, 30, 450, 450), (1, (-1), 2, 5, 50, 75)] [0, 100, 95, 95] [0, 1000, 950, 950] = true := by decide +kernel
def bm7 : Nat → Nat → Int := ev_b 5 [0, 0, 0, 0] [10, 20, 25, 20] [100, 40, 30, 5] [1000, 600, 450, 70] [0, 1, 0, 0] [0, 0, 1, 0] [0, 0, 0] [0, 0, 0, 0, 0, 0, 0, 0, 0, 0, 0, 0] [0, 0, 0, 0, 0, 0, 0, 0, 0, 0, 0, 0] [0, 0, 0, 0, 0]
theorem bm7_eq : BEq (canM bm6 2) bm7 := ev_eq_ok (by decide +kernel)
theorem bm7_rf0 : ev_rf bm7 0 [10, 20] [100, 5] [1000, 70] [0, 40] [0, 600] [(1, 1, 0, 5, 70, 75), (1, (-1), 2, 35, 350, 525)] [0, 100, 65] [0, 1000, 650] = true := by decide +kernel
def bm8 : Nat → Nat → Int := ev_b 5 [0, 0, 0, 0] [10, 20, 25, 20] [100, 40, 30, 5] [1000, 600, 450, 70] [0, 1, 0, 0] [0, 1, 1, 0] [0, 0, 0] [0, 0, 0, 0, 0, 0, 0, 0, 0, 0, 0, 0] [0, 0, 0, 0, 0, 0, 0, 0, 0, 0, 0, 0] [0, 0, 0, 0, 0]
theorem bm8_eq : BEq (canM bm7 1) bm8 := ev_eq_ok (by decide +kernel)
theorem bm8_rf0 : ev_rf bm8 0 [10, 20] [100, 5] [1000, 70] [0, 0] [0, 0] [] [0, 100, 105] [0, 1000, 1070] = true := by decide +kernel
def bm9 : Nat → Nat → Int := ev_b 5 [0, 0, 0, 0] [10, 20, 25, 20] [100, 40, 30, 5] [1000, 600, 450, 70] [0, 1, 0, 0] [1, 1, 1, 0] [0, 0, 0] [0, 0, 0, 0, 0, 0, 0, 0, 0, 0, 0, 0] [0, 0, 0, 0, 0, 0, 0, 0, 0, 0, 0, 0] [0, 0, 0, 0, 0]
theorem bm9_eq : BEq (canM bm8 0) bm9 := ev_eq_ok (by decide +kernel)
theorem bm9_rf0 : ev_rf bm9 0 [20] [5] [70] [0] [0] [] [0, 5] [0, 70] = true := by decide +kernel
theorem bm0_st : BEq X0b bm0 := ev_eq_ok (by decide +kernel)
-- the books of splits
def bs0 : Nat → Nat → Int := ev_b 30 [] [] [] [] [] [] [0, 0, 0] [0, 0, 0, 0, 0, 0, 0, 0, 0, 0, 0, 0] [0, 0, 0, 0, 0, 0, 0, 0, 0, 0, 0, 0] [0, 0, 0, 0, 0]
def bs1 : Nat → Nat → Int := ev_b 30 [1] [100] [10] [1000] [0] [0] [0, 0, 0] [0, 0, 0, 0, 0, 0, 0, 0, 0, 0, 0, 0] [0, 0, 0, 0, 0, 0, 0, 0, 0, 0, 0, 0] [0, 0, 0, 0, 0]
theorem bs1_eq : BEq (entM bs0 ((1 : Nat) : Int) 100 10 1000 0) bs1 := ev_eq_ok (by decide +kernel)
def bs2 : Nat → Nat → Int := ev_b 30 [1] [100] [10] [1000] [0] [0] [0, 1, 0] [0, 0, 0, 0, 150, 0, 0, 0, 0, 0, 0, 0] [0, 0, 0, 0, 3, 0, 0, 0, 0, 0, 0, 0] [0, 0, 0, 0, 0]
theorem bs2_eq : BEq (splM bs1 1 150 3) bs2 := ev_eq_ok (by decide +kernel)
def bs3 : Nat → Nat → Int := ev_b 30 [1, 1] [100, 200] [10, 15] [1000, 900] [0, 1] [0, 0] [0, 1, 0] [0, 0, 0, 0, 150, 0, 0, 0, 0, 0, 0, 0] [0, 0, 0, 0, 3, 0, 0, 0, 0, 0, 0, 0] [0, 0, 0, 0, 0]
theorem bs3_eq : BEq (entM bs2 ((1 : Nat) : Int) 200 15 900 1) bs3 := ev_eq_ok (by decide +kernel)
theorem bs3_rf1 : ev_rf bs3 1 [100, 200] [30, 0] [1000, 0] [0, 15] [0, 900] [(1, (-1), 2, 15, 500, 900)] [0, 30, 15] [0, 1000, 500] = true := by decide +kernel
def bs4 : Nat → Nat → Int := ev_b 30 [1, 1, 1] [100, 200, 300] [10, 15, 7] [1000, 900, 100] [0, 1, 0] [0, 0, 0] [0, 1, 0] [0, 0, 0, 0, 150, 0, 0, 0, 0, 0, 0, 0] [0, 0, 0, 0, 3, 0, 0, 0, 0, 0, 0, 0] [0, 0, 0, 0, 0]
theorem bs4_eq : BEq (entM bs3 ((1 : Nat) : Int) 300 7 100 0) bs4 := ev_eq_ok (by decide +kernel)
def bs5 : Nat → Nat → Int := ev_b 30 [1, 1, 1] [100, 200, 300] [10, 15, 7] [1000, 900, 100] [0, 1, 0] [0, 0, 0] [0, 2, 0] [0, 0, 0, 0, 150, 300, 0, 0, 0, 0, 0, 0] [0, 0, 0, 0, 3, 2, 0, 0, 0, 0, 0, 0] [0, 0, 0, 0, 0]
theorem bs5_eq : BEq (splM bs4 1 300 2) bs5 := ev_eq_ok (by decide +kernel)
theorem bs5_rf1 : ev_rf bs5 1 [100, 200, 300] [60, 0, 7] [1000, 0, 100] [0, 30, 0] [0, 900, 0] [(1, (-1), 2, 30, 500, 900)] [0, 60, 30, 37] [0, 1000, 500, 600] = true := by decide +kernel
def bs6 : Nat → Nat → Int := ev_b 30 [1, 1, 1] [100, 200, 300] [10, 15, 7] [1000, 900, 100] [0, 1, 0] [0, 0, 0] [0, 3, 0] [0, 0, 0, 0, 150, 300, 0, 0, 0, 0, 0, 0] [0, 0, 0, 0, 3, 2, 5, 0, 0, 0, 0, 0] [0, 0, 0, 0, 0]
theorem bs6_eq : BEq (splM bs5 1 0 5) bs6 := ev_eq_ok (by decide +kernel)
theorem bs6_rf1 : ev_rf bs6 1 [100, 200, 300] [60, 0, 7] [1000, 0, 100] [0, 30, 0] [0, 900, 0] [(1, (-1), 2, 30, 500, 900)] [0, 60, 30, 37] [0, 1000, 500, 600] = true := by decide +kernel
def bs7 : Nat → Nat → Int := ev_b 30 [1, 1, 1] [100, 200, 300] [10, 15, 7] [1000, 900, 100] [0, 1, 0] [0, 0, 0] [0, 4, 0] [0, 0, 0, 0, 150, 300, 0, 1824, 0, 0, 0, 0] [0, 0, 0, 0, 3, 2, 5, 4, 0, 0, 0, 0] [0, 0, 0, 0, 0]
theorem bs7_eq : BEq (splM bs6 1 1824 4) bs7 := ev_eq_ok (by decide +kernel)
theorem bs7_rf1 : ev_rf bs7 1 [100, 200, 300] [240, 0, 28] [1000, 0, 100] [0, 120, 0] [0, 900, 0] [(1, (-1), 2, 120, 500, 900)] [0, 240, 120, 148] [0, 1000, 500, 600] = true := by decide +kernel
def bs8 : Nat → Nat → Int := ev_b 30 [1, 1, 1, 2] [100, 200, 300, 0] [10, 15, 7, 3] [1000, 900, 100, 100] [0, 1, 0, 0] [0, 0, 0, 0] [0, 4, 0] [0, 0, 0, 0, 150, 300, 0, 1824, 0, 0, 0, 0] [0, 0, 0, 0, 3, 2, 5, 4, 0, 0, 0, 0] [0, 0, 0, 0, 0]
theorem bs8_eq : BEq (entM bs7 ((2 : Nat) : Int) 0 3 100 0) bs8 := ev_eq_ok (by decide +kernel)
def bs9 : Nat → Nat → Int := ev_b 30 [1, 1, 1, 2, 2] [100, 200, 300, 0, 40] [10, 15, 7, 3, 1] [1000, 900, 100, 100, 10] [0, 1, 0, 0, 1] [0, 0, 0, 0, 0] [0, 4, 0] [0, 0, 0, 0, 150, 300, 0, 1824, 0, 0, 0, 0] [0, 0, 0, 0, 3, 2, 5, 4, 0, 0, 0, 0] [0, 0, 0, 0, 0]
theorem bs9_eq : BEq (entM bs8 ((2 : Nat) : Int) 40 1 10 1) bs9 := ev_eq_ok (by decide +kernel)
def bs10 : Nat → Nat → Int := ev_b 30 [1, 1, 1, 2, 2, 2] [100, 200, 300, 0, 40, 41] [10, 15, 7, 3, 1, 1] [1000, 900, 100, 100, 10, 10] [0, 1, 0, 0, 1, 1] [0, 0, 0, 0, 0, 0] [0, 4, 0] [0, 0, 0, 0, 150, 300, 0, 1824, 0, 0, 0, 0] [0, 0, 0, 0, 3, 2, 5, 4, 0, 0, 0, 0] [0, 0, 0, 0, 0]
theorem bs10_eq : BEq (entM bs9 ((2 : Nat) : Int) 41 1 10 1) bs10 := ev_eq_ok (by decide +kernel)
def bs11 : Nat → Nat → Int := ev_b 30 [1, 1, 1, 2, 2, 2, 2] [100, 200, 300, 0, 40, 41, 42] [10, 15, 7, 3, 1, 1, 1] [1000, 900, 100, 100, 10, 10, 10] [0, 1, 0, 0, 1, 1, 1] [0, 0, 0, 0, 0, 0, 0] [0, 4, 0] [0, 0, 0, 0, 150, 300, 0, 1824, 0, 0, 0, 0] [0, 0, 0, 0, 3, 2, 5, 4, 0, 0, 0, 0] [0, 0, 0, 0, 0]
theorem bs11_eq : BEq (entM bs10 ((2 : Nat) : Int) 42 1 10 1) bs11 := ev_eq_ok (by decide +kernel)
theorem bs11_rf2 : ev_rf bs11 2 [0, 40, 41, 42] [3, 0, 0, 0] [100, 0, 0, 0] [0, 1, 1, 1] [0, 10, 10, 10] [(1, (-1), 2, 1, 33, 10), (2, (-1), 2, 1, 33, 10), (3, (-1), 2, 1, 34, 10)] [0, 3, 2, 1, 0] [0, 100, 67, 34, 0] = true := by decide +kernel
def bs12 : Nat → Nat → Int := ev_b 30 [1, 1, 1, 2, 2, 2, 2, 2] [100, 200, 300, 0, 40, 41, 42, 43] [10, 15, 7, 3, 1, 1, 1, 7] [1000, 900, 100, 100, 10, 10, 10, 100] [0, 1, 0, 0, 1, 1, 1, 0] [0, 0, 0, 0, 0, 0, 0, 0] [0, 4, 0] [0, 0, 0, 0, 150, 300, 0, 1824, 0, 0, 0, 0] [0, 0, 0, 0, 3, 2, 5, 4, 0, 0, 0, 0] [0, 0, 0, 0, 0]
theorem bs12_eq : BEq (entM bs11 ((2 : Nat) : Int) 43 7 100 0) bs12 := ev_eq_ok (by decide +kernel)
theorem bs12_rf2 : ev_rf bs12 2 [0, 40, 41, 42, 43] [3, 0, 0, 0, 7] [100, 0, 0, 0, 100] [0, 1, 1, 1, 0] [0, 10, 10, 10, 0] [(1, 4, 1, 1, 14, 10), (2, 4, 1, 1, 14, 10), (3, 4, 1, 1, 14, 10)] [0, 3, 3, 3, 3, 7] [0, 100, 100, 100, 100, 158] = true := by decide +kernel
def bs13 : Nat → Nat → Int := ev_b 30 [1, 1, 1, 2, 2, 2, 2, 2, 2] [100, 200, 300, 0, 40, 41, 42, 43, 10] [10, 15, 7, 3, 1, 1, 1, 7, 2] [1000, 900, 100, 100, 10, 10, 10, 100, 0] [0, 1, 0, 0, 1, 1, 1, 0, 0] [0, 0, 0, 0, 0, 0, 0, 0, 0] [0, 4, 0] [0, 0, 0, 0, 150, 300, 0, 1824, 0, 0, 0, 0] [0, 0, 0, 0, 3, 2, 5, 4, 0, 0, 0, 0] [0, 0, 0, 0, 0]
theorem bs13_eq : BEq (entM bs12 ((2 : Nat) : Int) 10 2 0 0) bs13 := ev_eq_ok (by decide +kernel)
def bs14 : Nat → Nat → Int := ev_b 30 [1, 1, 1, 2, 2, 2, 2, 2, 2, 2] [100, 200, 300, 0, 40, 41, 42, 43, 10, 40] [10, 15, 7, 3, 1, 1, 1, 7, 2, 2] [1000, 900, 100, 100, 10, 10, 10, 100, 0, 5] [0, 1, 0, 0, 1, 1, 1, 0, 0, 1] [0, 0, 0, 0, 0, 0, 0, 0, 0, 0] [0, 4, 0] [0, 0, 0, 0, 150, 300, 0, 1824, 0, 0, 0, 0] [0, 0, 0, 0, 3, 2, 5, 4, 0, 0, 0, 0] [0, 0, 0, 0, 0]
theorem bs14_eq : BEq (entM bs13 ((2 : Nat) : Int) 40 2 5 1) bs14 := ev_eq_ok (by decide +kernel)
theorem bs14_rf2 : ev_rf bs14 2 [0, 10, 40, 41, 42, 43] [3, 2, 0, 0, 0, 7] [100, 0, 0, 0, 0, 100] [0, 0, 3, 1, 1, 0] [0, 0, 15, 10, 10, 0] [(2, 5, 1, 3, 42, 15), (3, 5, 1, 1, 15, 10), (4, 5, 1, 1, 14, 10)] [0, 3, 5, 5, 5, 5, 7] [0, 100, 100, 100, 100, 100, 129] = true := by decide +kernel
theorem bs0_st : BEq X0b bs0 := ev_eq_ok (by decide +kernel)
-- the books of years
def by0 : Nat → Nat → Int := ev_b 30 [] [] [] [] [] [] [0, 0, 0] [0, 0, 0, 0, 0, 0, 0, 0, 0, 0, 0, 0] [0, 0, 0, 0, 0, 0, 0, 0, 0, 0, 0, 0] [0, 0, 0, 0, 0]
def by1 : Nat → Nat → Int := ev_b 30 [2] [0] [10] [1000] [0] [0] [0, 0, 0] [0, 0, 0, 0, 0, 0, 0, 0, 0, 0, 0, 0] [0, 0, 0, 0, 0, 0, 0, 0, 0, 0, 0, 0] [0, 0, 0, 0, 0]
theorem by1_eq : BEq (entM by0 ((2 : Nat) : Int) 0 10 1000 0) by1 := ev_eq_ok (by decide +kernel)
def by2 : Nat → Nat → Int := ev_b 30 [2, 2] [0, 100] [10, 5] [1000, 100] [0, 1] [0, 0] [0, 0, 0] [0, 0, 0, 0, 0, 0, 0, 0, 0, 0, 0, 0] [0, 0, 0, 0, 0, 0, 0, 0, 0, 0, 0, 0] [0, 0, 0, 0, 0]
theorem by2_eq : BEq (entM by1 ((2 : Nat) : Int) 100 5 100 1) by2 := ev_eq_ok (by decide +kernel)
def by3 : Nat → Nat → Int := ev_b 30 [2, 2, 2] [0, 100, 400] [10, 5, 5] [1000, 100, 900] [0, 1, 1] [0, 0, 0] [0, 0, 0] [0, 0, 0, 0, 0, 0, 0, 0, 0, 0, 0, 0] [0, 0, 0, 0, 0, 0, 0, 0, 0, 0, 0, 0] [0, 0, 0, 0, 0]
theorem by3_eq : BEq (entM by2 ((2 : Nat) : Int) 400 5 900 1) by3 := ev_eq_ok (by decide +kernel)
theorem by3_rf0 : ev_rf by3 0 [] [] [] [] [] [] [0] [0] = true := by decide +kernel
theorem by3_rf1 : ev_rf by3 1 [] [] [] [] [] [] [0] [0] = true := by decide +kernel
theorem by3_rf2 : ev_rf by3 2 [0, 100, 400] [10, 0, 0] [1000, 0, 0] [0, 5, 5] [0, 100, 900] [(1, (-1), 2, 5, 500, 100), (2, (-1), 2, 5, 500, 900)] [0, 10, 5, 0] [0, 1000, 500, 0] = true := by decide +kernel
theorem by3_ye {x : Nat → Nat → Int} (hX : XI x by3) : YE x by3 [(-400), 400, 0, 0, 0] [0, 0, 0, 0, 0] := YE.of (ev_see hX (by decide) by3_rf0) (ev_see hX (by decide) by3_rf1) (ev_see hX (by decide) by3_rf2) (by decide +kernel)
def by4 : Nat → Nat → Int := ev_b 30 [2, 2, 2] [0, 100, 400] [10, 5, 5] [1000, 100, 900] [0, 1, 1] [0, 0, 0] [0, 0, 0] [0, 0, 0, 0, 0, 0, 0, 0, 0, 0, 0, 0] [0, 0, 0, 0, 0, 0, 0, 0, 0, 0, 0, 0] [0, 150, 0, 0, 0]
theorem by4_eq : BEq (alwM by3 1 150) by4 := ev_eq_ok (by decide +kernel)
theorem by4_rf0 : ev_rf by4 0 [] [] [] [] [] [] [0] [0] = true := by decide +kernel
theorem by4_rf1 : ev_rf by4 1 [] [] [] [] [] [] [0] [0] = true := by decide +kernel
theorem by4_rf2 : ev_rf by4 2 [0, 100, 400] [10, 0, 0] [1000, 0, 0] [0, 5, 5] [0, 100, 900] [(1, (-1), 2, 5, 500, 100), (2, (-1), 2, 5, 500, 900)] [0, 10, 5, 0] [0, 1000, 500, 0] = true := by decide +kernel
theorem by4_ye {x : Nat → Nat → Int} (hX : XI x by4) : YE x by4 [(-400), 400, 0, 0, 0] [0, 150, 0, 0, 0] := YE.of (ev_see hX (by decide) by4_rf0) (ev_see hX (by decide) by4_rf1) (ev_see hX (by decide) by4_rf2) (by decide +kernel)
def by5 : Nat → Nat → Int := ev_b 30 [2, 2, 2, 0] [0, 100, 400, 800] [10, 5, 5, 1] [1000, 100, 900, 0] [0, 1, 1, 0] [0, 0, 0, 0] [0, 0, 0] [0, 0, 0, 0, 0, 0, 0, 0, 0, 0, 0, 0] [0, 0, 0, 0, 0, 0, 0, 0, 0, 0, 0, 0] [0, 150, 0, 0, 0]
theorem by5_eq : BEq (entM by4 ((0 : Nat) : Int) 800 1 0 0) by5 := ev_eq_ok (by decide +kernel)
def by6 : Nat → Nat → Int := ev_b 30 [2, 2, 2, 0, 0] [0, 100, 400, 800, 900] [10, 5, 5, 1, 1] [1000, 100, 900, 0, 500] [0, 1, 1, 0, 1] [0, 0, 0, 0, 0] [0, 0, 0] [0, 0, 0, 0, 0, 0, 0, 0, 0, 0, 0, 0] [0, 0, 0, 0, 0, 0, 0, 0, 0, 0, 0, 0] [0, 150, 0, 0, 0]
theorem by6_eq : BEq (entM by5 ((0 : Nat) : Int) 900 1 500 1) by6 := ev_eq_ok (by decide +kernel)
theorem by6_rf0 : ev_rf by6 0 [800, 900] [1, 0] [0, 0] [0, 1] [0, 500] [(1, (-1), 2, 1, 0, 500)] [0, 1, 0] [0, 0, 0] = true := by decide +kernel
theorem by6_rf1 : ev_rf by6 1 [] [] [] [] [] [] [0] [0] = true := by decide +kernel
theorem by6_rf2 : ev_rf by6 2 [0, 100, 400] [10, 0, 0] [1000, 0, 0] [0, 5, 5] [0, 100, 900] [(1, (-1), 2, 5, 500, 100), (2, (-1), 2, 5, 500, 900)] [0, 10, 5, 0] [0, 1000, 500, 0] = true := by decide +kernel
theorem by6_ye {x : Nat → Nat → Int} (hX : XI x by6) : YE x by6 [(-400), 400, 500, 0, 0] [0, 150, 0, 0, 0] := YE.of (ev_see hX (by decide) by6_rf0) (ev_see hX (by decide) by6_rf1) (ev_see hX (by decide) by6_rf2) (by decide +kernel)
def by7 : Nat → Nat → Int := ev_b 30 [2, 2, 2, 0, 0] [0, 100, 400, 800, 900] [10, 5, 5, 1, 1] [1000, 100, 900, 0, 500] [0, 1, 1, 0, 1] [0, 0, 0, 0, 0] [0, 0, 0] [0, 0, 0, 0, 0, 0, 0, 0, 0, 0, 0, 0] [0, 0, 0, 0, 0, 0, 0, 0, 0, 0, 0, 0] [0, 150, 600, 0, 0]
theorem by7_eq : BEq (alwM by6 2 600) by7 := ev_eq_ok (by decide +kernel)
theorem by7_rf0 : ev_rf by7 0 [800, 900] [1, 0] [0, 0] [0, 1] [0, 500] [(1, (-1), 2, 1, 0, 500)] [0, 1, 0] [0, 0, 0] = true := by decide +kernel
theorem by7_rf1 : ev_rf by7 1 [] [] [] [] [] [] [0] [0] = true := by decide +kernel
theorem by7_rf2 : ev_rf by7 2 [0, 100, 400] [10, 0, 0] [1000, 0, 0] [0, 5, 5] [0, 100, 900] [(1, (-1), 2, 5, 500, 100), (2, (-1), 2, 5, 500, 900)] [0, 10, 5, 0] [0, 1000, 500, 0] = true := by decide +kernel
theorem by7_ye {x : Nat → Nat → Int} (hX : XI x by7) : YE x by7 [(-400), 400, 500, 0, 0] [0, 150, 600, 0, 0] := YE.of (ev_see hX (by decide) by7_rf0) (ev_see hX (by decide) by7_rf1) (ev_see hX (by decide) by7_rf2) (by decide +kernel)
def by8 : Nat → Nat → Int := ev_b 30 [2, 2, 2, 0, 0] [0, 100, 400, 800, 900] [10, 5, 5, 1, 1] [1000, 100, 900, 0, 500] [0, 1, 1, 0, 1] [0, 0, 0, 0, 0] [0, 0, 0] [0, 0, 0, 0, 0, 0, 0, 0, 0, 0, 0, 0] [0, 0, 0, 0, 0, 0, 0, 0, 0, 0, 0, 0] [0, 1000, 600, 0, 0]
theorem by8_eq : BEq (alwM by7 1 1000) by8 := ev_eq_ok (by decide +kernel)
theorem by8_rf0 : ev_rf by8 0 [800, 900] [1, 0] [0, 0] [0, 1] [0, 500] [(1, (-1), 2, 1, 0, 500)] [0, 1, 0] [0, 0, 0] = true := by decide +kernel
theorem by8_rf1 : ev_rf by8 1 [] [] [] [] [] [] [0] [0] = true := by decide +kernel
theorem by8_rf2 : ev_rf by8 2 [0, 100, 400] [10, 0, 0] [1000, 0, 0] [0, 5, 5] [0, 100, 900] [(1, (-1), 2, 5, 500, 100), (2, (-1), 2, 5, 500, 900)] [0, 10, 5, 0] [0, 1000, 500, 0] = true := by decide +kernel
theorem by8_ye {x : Nat → Nat → Int} (hX : XI x by8) : YE x by8 [(-400), 400, 500, 0, 0] [0, 1000, 600, 0, 0] := YE.of (ev_see hX (by decide) by8_rf0) (ev_see hX (by decide) by8_rf1) (ev_see hX (by decide) by8_rf2) (by decide +kernel)
def by9 : Nat → Nat → Int := ev_b 30 [2, 2, 2, 0, 0] [0, 100, 400, 800, 900] [10, 5, 5, 1, 1] [1000, 100, 900, 0, 500] [0, 1, 1, 0, 1] [0, 0, 0, 0, 0] [0, 0, 0] [0, 0, 0, 0, 0, 0, 0, 0, 0, 0, 0, 0] [0, 0, 0, 0, 0, 0, 0, 0, 0, 0, 0, 0] [50, 1000, 600, 0, 0]
theorem by9_eq : BEq (alwM by8 0 50) by9 := ev_eq_ok (by decide +kernel)
theorem by9_rf0 : ev_rf by9 0 [800, 900] [1, 0] [0, 0] [0, 1] [0, 500] [(1, (-1), 2, 1, 0, 500)] [0, 1, 0] [0, 0, 0] = true := by decide +kernel
theorem by9_rf1 : ev_rf by9 1 [] [] [] [] [] [] [0] [0] = true := by decide +kernel
theorem by9_rf2 : ev_rf by9 2 [0, 100, 400] [10, 0, 0] [1000, 0, 0] [0, 5, 5] [0, 100, 900] [(1, (-1), 2, 5, 500, 100), (2, (-1), 2, 5, 500, 900)] [0, 10, 5, 0] [0, 1000, 500, 0] = true := by decide +kernel
theorem by9_ye {x : Nat → Nat → Int} (hX : XI x by9) : YE x by9 [(-400), 400, 500, 0, 0] [50, 1000, 600, 0, 0] := YE.of (ev_see hX (by decide) by9_rf0) (ev_see hX (by decide) by9_rf1) (ev_see hX (by decide) by9_rf2) (by decide +kernel)
theorem by0_st : BEq X0b by0 := ev_eq_ok (by decide +kernel)
