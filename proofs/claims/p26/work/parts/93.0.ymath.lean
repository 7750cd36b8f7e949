-- the book of the loop of years
theorem canM_Mq (q : Nat → Nat → Int) (t v : Nat) : bM (canM q t) v = bM q v := rfl
theorem canM_Nq (q : Nat → Nat → Int) (t : Nat) : bN (canM q t) = bN q := rfl
theorem fla_0q (D F : Nat → Int) (d : Int) : fla D F 0 d = 1 := rfl
def yB : Nat → Nat → Nat → Int
  | 0 => by9
  | n + 1 => if n < 5 then by9 else entM (yB n) ((1 : Nat) : Int) (30 * ((n : Nat) : Int)) 1 ((n : Nat) : Int) 0
theorem yB_5 : yB 5 = by9 := if_pos (show 4 < 5 by decide)
theorem yB_s {n : Nat} (h : 5 ≤ n) : yB (n + 1) = entM (yB n) ((1 : Nat) : Int) (30 * ((n : Nat) : Int)) 1 ((n : Nat) : Int) 0 := if_neg (show ¬ n < 5 by omega)
theorem yB_N : ∀ n, 5 ≤ n → bN (yB n) = n := by
  intro n
  induction n with
  | zero => intro h; omega
  | succ n ih =>
    intro h
    by_cases q : n = 4
    · subst q; rw [yB_5]; decide +kernel
    · rw [yB_s (by omega), entM_N, ih (by omega)]
theorem yB_M : ∀ n, 5 ≤ n → bM (yB n) 1 = 0 := by
  intro n
  induction n with
  | zero => intro h; omega
  | succ n ih =>
    intro h
    by_cases q : n = 4
    · subst q; rw [yB_5]; decide +kernel
    · rw [yB_s (by omega), entM_M, ih (by omega)]
theorem yB_H {n : Nat} (h : 5 ≤ n) (e : Int) : bH (yB (n + 1)) 1 e = bH (yB n) 1 e + (if 30 * ((n : Nat) : Int) ≤ e then 1 else 0) := by
  rw [yB_s h, entM_H, yB_M n h]
  rw [fla_0q]
  by_cases q : 30 * ((n : Nat) : Int) ≤ e
  · rw [if_pos ⟨rfl, q⟩, if_pos rfl, if_pos q]; rfl
  · rw [if_neg (fun h => q h.2), if_neg q]
theorem yB_nn (hb : ∀ e, 0 ≤ bH by9 1 e) : ∀ n, 5 ≤ n → ∀ e, 0 ≤ bH (yB n) 1 e := by
  intro n
  induction n with
  | zero => intro h; omega
  | succ n ih =>
    intro h e
    by_cases q : n = 4
    · subst q; rw [yB_5]; exact hb e
    · rw [yB_H (by omega)]
      have := ih (by omega) e
      split <;> omega
theorem yB_hold : ∀ n, 5 ≤ n → n ≤ 60 → bH (yB n) 1 1824 = (n : Int) - 5 := by
  intro n
  induction n with
  | zero => intro h; omega
  | succ n ih =>
    intro h h2
    by_cases q : n = 4
    · subst q; rw [yB_5]; decide +kernel
    · rw [yB_H (by omega), ih (by omega) (by omega), if_pos (by omega)]; omega
theorem y60 : yB 60 = entM (yB 59) ((1 : Nat) : Int) (30 * ((59 : Nat) : Int)) 1 ((59 : Nat) : Int) 0 := yB_s (n := 59) (by omega)
theorem y60_1 : yB 60 1 59 = ((1 : Nat) : Int) := by
  rw [y60]
  show fnU (yB 59 1) (bN (yB 59)) ((1 : Nat) : Int) 59 = _
  rw [yB_N 59 (by omega), fnU_eq]
theorem y60_2 : yB 60 2 59 = 30 * ((59 : Nat) : Int) := by
  rw [y60]
  show fnU (yB 59 2) (bN (yB 59)) (30 * ((59 : Nat) : Int)) 59 = _
  rw [yB_N 59 (by omega), fnU_eq]
theorem y60_3 : yB 60 3 59 = 1 := by
  rw [y60]
  show fnU (yB 59 3) (bN (yB 59)) 1 59 = _
  rw [yB_N 59 (by omega), fnU_eq]
theorem y60_5 : yB 60 5 59 = 0 := by
  rw [y60]
  show fnU (yB 59 5) (bN (yB 59)) 0 59 = _
  rw [yB_N 59 (by omega), fnU_eq]
theorem y60_6 : yB 60 6 59 = 0 := by
  rw [y60]
  show fnU (yB 59 6) (bN (yB 59)) 0 59 = _
  rw [yB_N 59 (by omega), fnU_eq]
theorem y60_U : bU (yB 60) 1 59 = 1 := by
  unfold bU uni
  rw [y60_3, yB_M 60 (by omega), fla_0q]
  rfl
theorem y60_sp (hb : ∀ e, 0 ≤ bH by9 1 e) : ∀ e, yB 60 2 59 ≤ e → bU (yB 60) 1 59 ≤ bH (yB 60) 1 e := by
  rw [y60_2, y60_U]
  intro e he
  have h1 := yB_H (n := 59) (by omega) e
  have h2 := yB_nn hb 59 (by omega) e
  rw [if_pos he] at h1
  have h3 : bH (yB 60) 1 e = bH (yB 59) 1 e + 1 := h1
  omega
theorem y60_hold : bH (canM (yB 60) 59) 1 1824 / fla (bSD (canM (yB 60) 59) 1) (bSF (canM (yB 60) 59) 1) (bM (canM (yB 60) 59) 1) 1824 = 54 := by
  have hN : 59 < bN (yB 60) := by rw [yB_N 60 (by omega)]; omega
  rw [canM_H hN y60_6 1 1824, y60_1, y60_2, y60_5, y60_U, yB_hold 60 (by omega) (by omega), canM_Mq, yB_M 60 (by omega), if_pos ⟨rfl, by omega⟩, if_pos rfl, fla_0q]
  decide +kernel
