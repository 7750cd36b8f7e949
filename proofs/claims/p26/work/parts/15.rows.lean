-- rows: the days of what is live, rising
def IsR (L : Nat → Bool) (dy : Nat → Int) (n R : Nat) (D : Nat → Int) : Prop :=
  (∀ r, r < R → ∃ k, k < n ∧ L k = true ∧ dy k = D r) ∧ (∀ k, k < n → L k = true → ∃ r, r < R ∧ D r = dy k) ∧ ∀ r q, r < q → q < R → D r < D q
theorem IsR.same {L : Nat → Bool} {dy : Nat → Int} {n R R' : Nat} {D D' : Nat → Int} (h : IsR L dy n R D) (h' : IsR L dy n R' D') : ∀ r, r < R → r < R' ∧ D r = D' r := by
  intro r
  induction r using Nat.strongRecOn with
  | _ r ih =>
    intro hr
    obtain ⟨k, hk, hL, e⟩ := h.1 r hr
    obtain ⟨r', hr', e'⟩ := h'.2.1 k hk hL
    have h1 : r ≤ r' := by
      rcases Nat.lt_or_ge r' r with q | q
      · have h2 := (ih r' q (by omega)).2
        have h3 := h.2.2 r' r q hr
        omega
      · exact q
    have hr2 : r < R' := by omega
    obtain ⟨k2, hk2, hL2, e2⟩ := h'.1 r hr2
    obtain ⟨q, hq, eq⟩ := h.2.1 k2 hk2 hL2
    have h4 : r ≤ q := by
      rcases Nat.lt_or_ge q r with z | z
      · have h2 := (ih q z (by omega)).2
        have h3 := h'.2.2 q r z hr2
        omega
      · exact z
    refine ⟨hr2, ?_⟩
    have h5 : D r ≤ D q := by
      rcases Nat.lt_or_ge r q with z | z
      · exact Int.le_of_lt (h.2.2 r q z hq)
      · rw [show r = q by omega]; exact Int.le_refl _
    have h6 : D' r ≤ D' r' := by
      rcases Nat.lt_or_ge r r' with z | z
      · exact Int.le_of_lt (h'.2.2 r r' z hr')
      · rw [show r = r' by omega]; exact Int.le_refl _
    omega
theorem IsR.uniq {L : Nat → Bool} {dy : Nat → Int} {n R R' : Nat} {D D' : Nat → Int} (h : IsR L dy n R D) (h' : IsR L dy n R' D') : R = R' ∧ ∀ r, r < R → D r = D' r := by
  refine ⟨?_, fun r hr => (h.same h' r hr).2⟩
  rcases Nat.lt_or_ge R R' with q | q
  · have := (h'.same h R q).1; omega
  · rcases Nat.lt_or_ge R' R with z | z
    · have := (h.same h' R' z).1; omega
    · omega
theorem IsR.inj {L : Nat → Bool} {dy : Nat → Int} {n R : Nat} {D : Nat → Int} (h : IsR L dy n R D) {r q : Nat} (hr : r < R) (hq : q < R) (e : D r = D q) : r = q := by
  rcases Nat.lt_or_ge r q with z | z
  · have := h.2.2 r q z hq; omega
  · rcases Nat.lt_or_ge q r with y | y
    · have := h.2.2 q r y hr; omega
    · omega
/-- what the live things of a day weigh together -/
def wsum (L : Nat → Bool) (dy w : Nat → Int) (n : Nat) (d : Int) : Int := sm (fun k => if L k = true ∧ dy k = d then w k else 0) n
/-- what the live things up to a day weigh together -/
def wupto (L : Nat → Bool) (dy w : Nat → Int) (n : Nat) (d : Int) : Int := sm (fun k => if L k = true ∧ dy k ≤ d then w k else 0) n
theorem wsum_nn {L : Nat → Bool} {dy w : Nat → Int} {n : Nat} (h : ∀ k, k < n → 0 ≤ w k) (d : Int) : 0 ≤ wsum L dy w n d :=
  sm_nn fun k hk => by have := h k hk; split <;> omega
theorem wsum_le {L : Nat → Bool} {dy w : Nat → Int} {n : Nat} {c : Int} (h : ∀ k, k < n → 0 ≤ w k ∧ w k ≤ c) (d : Int) : wsum L dy w n d ≤ n * c :=
  sm_bd fun k hk => by have := h k hk; split <;> omega
theorem wsum_mono {L : Nat → Bool} {dy w : Nat → Int} {m n : Nat} (h : ∀ k, k < n → 0 ≤ w k) (hm : m ≤ n) (d : Int) : wsum L dy w m d ≤ wsum L dy w n d :=
  sm_mono (fun k hk => by have := h k hk; split <;> omega) hm
/-- the rows give the same sums -/
theorem rows_sum {L : Nat → Bool} {dy : Nat → Int} {n R : Nat} {D : Nat → Int} (h : IsR L dy n R D) (w : Nat → Int) (pr : Int → Bool) :
    sm (fun r => if pr (D r) = true then wsum L dy w n (D r) else 0) R = sm (fun k => if L k = true ∧ pr (dy k) = true then w k else 0) n := by
  have h1 : sm (fun r => if pr (D r) = true then wsum L dy w n (D r) else 0) R = sm (fun r => sm (fun k => if pr (D r) = true ∧ L k = true ∧ dy k = D r then w k else 0) n) R := by
    refine sm_congr fun r _ => ?_
    by_cases q : pr (D r) = true
    · rw [if_pos q]; exact sm_congr fun k _ => by simp [q]
    · rw [if_neg q]; exact (sm_zero fun k _ => by simp [q]).symm
  rw [h1, sm_swap]
  refine sm_congr fun k hk => ?_
  by_cases q : L k = true
  · obtain ⟨r, hr, e⟩ := h.2.1 k hk q
    rw [sm_one hr (fun j hj hn => ?_)]
    · by_cases q2 : pr (dy k) = true
      · rw [if_pos ⟨by rw [e]; exact q2, q, e.symm⟩, if_pos ⟨q, q2⟩]
      · rw [if_neg (fun z => q2 (by rw [← e]; exact z.1)), if_neg (fun z => q2 z.2)]
    · rw [if_neg]
      rintro ⟨-, -, z⟩
      exact hn (h.inj hj hr (by omega))
  · rw [if_neg (fun z => q z.1)]
    exact sm_zero fun r _ => by rw [if_neg (fun z => q z.2.1)]
theorem rows_all {L : Nat → Bool} {dy : Nat → Int} {n R : Nat} {D : Nat → Int} (h : IsR L dy n R D) (w : Nat → Int) : sm (fun r => wsum L dy w n (D r)) R = sm (fun k => if L k = true then w k else 0) n := by
  have := rows_sum h w (fun _ => true)
  simpa using this
theorem sm_cut {f : Nat → Int} {D : Nat → Int} {q R : Nat} {d : Int} (hq : q ≤ R) (h1 : ∀ r, r < q → D r ≤ d) (h2 : ∀ r, q ≤ r → r < R → d < D r) : sm (fun r => if D r ≤ d then f r else 0) R = sm f q := by
  induction R with
  | zero => rw [show q = 0 by omega]; rfl
  | succ R ih =>
    rcases Nat.lt_or_ge q (R + 1) with z | z
    · rw [sm, ih (by omega) (fun r a b => h2 r a (by omega)), if_neg (by have := h2 R (by omega) (by omega); omega), Int.add_zero]
    · rw [show q = R + 1 by omega]
      refine sm_congr fun r hr => ?_
      rw [if_pos (h1 r (by omega))]
/-- how many rows there are up to a day -/
theorem rows_cut {L : Nat → Bool} {dy : Nat → Int} {n R : Nat} {D : Nat → Int} (h : IsR L dy n R D) (d : Int) : ∃ q, q ≤ R ∧ (∀ r, r < q → D r ≤ d) ∧ ∀ r, q ≤ r → r < R → d < D r := by
  have key : ∀ m, m ≤ R → ∃ q, q ≤ m ∧ (∀ r, r < q → D r ≤ d) ∧ ∀ r, q ≤ r → r < m → d < D r := by
    intro m
    induction m with
    | zero => intro _; exact ⟨0, Nat.le_refl 0, fun r hr => absurd hr (by omega), fun r _ hr => absurd hr (by omega)⟩
    | succ m ih =>
      intro hm
      obtain ⟨q, h1, h2, h3⟩ := ih (by omega)
      by_cases z : D m ≤ d
      · have : q = m := by
          rcases Nat.lt_or_ge q m with y | y
          · have a := h3 q (Nat.le_refl q) y
            have b := h.2.2 q m y (by omega)
            omega
          · omega
        subst this
        exact ⟨q + 1, Nat.le_refl _, fun r hr => by
          rcases Nat.lt_or_ge r q with y | y
          · exact h2 r y
          · rw [show r = q by omega]; exact z, fun r a b => absurd b (by omega)⟩
      · exact ⟨q, by omega, h2, fun r a b => by
          rcases Nat.lt_or_ge r m with y | y
          · exact h3 r a y
          · rw [show r = m by omega]; omega⟩
  exact key R (Nat.le_refl R)
theorem rows_upto {L : Nat → Bool} {dy : Nat → Int} {n R : Nat} {D : Nat → Int} (h : IsR L dy n R D) (w : Nat → Int) {d : Int} {q : Nat} (hq : q ≤ R) (h1 : ∀ r, r < q → D r ≤ d) (h2 : ∀ r, q ≤ r → r < R → d < D r) : sm (fun r => wsum L dy w n (D r)) q = wupto L dy w n d := by
  have e := rows_sum h w (fun x => decide (x ≤ d))
  simp only [decide_eq_true_eq] at e
  rw [← sm_cut hq h1 h2, e]
  rfl
theorem sm_ite_sub (c : Nat → Prop) (f g : Nat → Int) (n : Nat) (dc : ∀ k, Decidable (c k)) : sm (fun k => if c k then f k - g k else 0) n = sm (fun k => if c k then f k else 0) n - sm (fun k => if c k then g k else 0) n := by
  rw [← sm_sub]
  refine sm_congr fun k _ => ?_
  split <;> omega
/-- no more rows than live things -/
theorem IsR.le {L : Nat → Bool} {dy : Nat → Int} {n R : Nat} {D : Nat → Int} (h : IsR L dy n R D) : R ≤ n := by
  have h1 : sm (fun r => wsum L dy (fun _ => 1) n (D r)) R = sm (fun k => if L k = true then 1 else 0) n := rows_all h (fun _ => 1)
  have h2 : sm (fun _ => (1 : Int)) R ≤ sm (fun r => wsum L dy (fun _ => 1) n (D r)) R := by
    refine sm_le fun r hr => ?_
    obtain ⟨k, hk, hL, e⟩ := h.1 r hr
    have h3 : (if L k = true ∧ dy k = D r then (1 : Int) else 0) = 1 := if_pos ⟨hL, e⟩
    have h4 : ∀ m, m ≤ n → k < m → 1 ≤ sm (fun k => if L k = true ∧ dy k = D r then (1 : Int) else 0) m := by
      intro m
      induction m with
      | zero => intro _ q; omega
      | succ m ih =>
        intro a b
        rw [sm]
        rcases Nat.lt_or_ge k m with q | q
        · have := ih (by omega) q
          split <;> omega
        · rw [← show k = m by omega, h3]
          have : 0 ≤ sm (fun k => if L k = true ∧ dy k = D r then (1 : Int) else 0) k := sm_nn fun j _ => by split <;> omega
          omega
    exact h4 n (Nat.le_refl n) hk
  have h5 : sm (fun _ => (1 : Int)) R = R := by
    have : ∀ m : Nat, sm (fun _ => (1 : Int)) m = m := by
      intro m
      induction m with
      | zero => rfl
      | succ m ih => rw [sm, ih]; push_cast; rfl
    exact this R
  have h6 : sm (fun k => if L k = true then (1 : Int) else 0) n ≤ n * 1 := sm_bd fun k _ => by split <;> omega
  omega
/-- a new day goes between: the rows behind it move up by one -/
def insD (D : Nat → Int) (q : Nat) (d : Int) : Nat → Int := fun r => if r < q then D r else if r = q then d else D (r - 1)
theorem IsR.ins {L : Nat → Bool} {dy : Nat → Int} {n R q : Nat} {D : Nat → Int} (h : IsR L dy n R D) (hL : L n = true) (hq : q ≤ R) (h1 : ∀ r, r < q → D r < dy n) (h2 : ∀ r, q ≤ r → r < R → dy n < D r) : IsR L dy (n + 1) (R + 1) (insD D q (dy n)) := by
  refine ⟨fun r hr => ?_, fun k hk hLk => ?_, fun r z hrz hz => ?_⟩
  · unfold insD
    by_cases a : r < q
    · rw [if_pos a]
      obtain ⟨k, hk, x, y⟩ := h.1 r (by omega)
      exact ⟨k, by omega, x, y⟩
    · rw [if_neg a]
      by_cases b : r = q
      · rw [if_pos b]; exact ⟨n, by omega, hL, rfl⟩
      · rw [if_neg b]
        obtain ⟨k, hk, x, y⟩ := h.1 (r - 1) (by omega)
        exact ⟨k, by omega, x, y⟩
  · rcases Nat.lt_or_ge k n with a | a
    · obtain ⟨r, hr, e⟩ := h.2.1 k a hLk
      by_cases b : r < q
      · exact ⟨r, by omega, by unfold insD; rw [if_pos b]; exact e⟩
      · exact ⟨r + 1, by omega, by unfold insD; rw [if_neg (by omega), if_neg (by omega)]; exact e⟩
    · exact ⟨q, by omega, by unfold insD; rw [if_neg (by omega), if_pos rfl, show k = n by omega]⟩
  · unfold insD
    by_cases a : z < q
    · rw [if_pos a, if_pos (by omega)]; exact h.2.2 r z hrz (by omega)
    · rw [if_neg a]
      by_cases b : z = q
      · rw [if_pos b, if_pos (by omega)]; exact h1 r (by omega)
      · rw [if_neg b]
        by_cases a2 : r < q
        · rw [if_pos a2]; have := h1 r a2; have := h2 (z - 1) (by omega) (by omega); omega
        · rw [if_neg a2]
          by_cases b2 : r = q
          · rw [if_pos b2]; exact h2 (z - 1) (by omega) (by omega)
          · rw [if_neg b2]; exact h.2.2 (r - 1) (z - 1) (by omega) (by omega)
theorem IsR.old {L : Nat → Bool} {dy : Nat → Int} {n R q : Nat} {D : Nat → Int} (h : IsR L dy n R D) (hL : L n = true → q < R ∧ D q = dy n) : IsR L dy (n + 1) R D := by
  refine ⟨fun r hr => ?_, fun k hk hLk => ?_, h.2.2⟩
  · obtain ⟨k, hk, x, y⟩ := h.1 r hr
    exact ⟨k, by omega, x, y⟩
  · rcases Nat.lt_or_ge k n with a | a
    · exact h.2.1 k a hLk
    · have e : k = n := by omega
      subst e
      exact ⟨q, (hL hLk).1, (hL hLk).2⟩
theorem IsR.congr {L : Nat → Bool} {dy : Nat → Int} {n R : Nat} {D D' : Nat → Int} (h : IsR L dy n R D) (e : ∀ r, r < R → D' r = D r) : IsR L dy n R D' := by
  refine ⟨fun r hr => by rw [e r hr]; exact h.1 r hr, fun k hk hL => ?_, fun r q hrq hq => by rw [e r (by omega), e q hq]; exact h.2.2 r q hrq hq⟩
  obtain ⟨r, hr, x⟩ := h.2.1 k hk hL
  exact ⟨r, hr, by rw [e r hr]; exact x⟩
theorem IsR.zero {L : Nat → Bool} {dy D : Nat → Int} : IsR L dy 0 0 D := ⟨fun r hr => absurd hr (by omega), fun k hk => absurd hk (by omega), fun r q _ hq => absurd hq (by omega)⟩
