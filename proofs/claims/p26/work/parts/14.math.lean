-- numbers: sums, products, rows of days
def sm (f : Nat → Int) : Nat → Int | 0 => 0 | n + 1 => sm f n + f n
def pd (f : Nat → Int) : Nat → Int | 0 => 1 | n + 1 => pd f n * f n
theorem sm_succ (f : Nat → Int) (n : Nat) : sm f (n + 1) = sm f n + f n := rfl
theorem pd_succ (f : Nat → Int) (n : Nat) : pd f (n + 1) = pd f n * f n := rfl
theorem sm_congr {f g : Nat → Int} {n : Nat} (h : ∀ k, k < n → f k = g k) : sm f n = sm g n := by
  induction n with
  | zero => rfl
  | succ n ih => rw [sm, sm, ih (fun k hk => h k (by omega)), h n (by omega)]
theorem pd_congr {f g : Nat → Int} {n : Nat} (h : ∀ k, k < n → f k = g k) : pd f n = pd g n := by
  induction n with
  | zero => rfl
  | succ n ih => rw [pd, pd, ih (fun k hk => h k (by omega)), h n (by omega)]
theorem sm_add (f g : Nat → Int) (n : Nat) : sm (fun k => f k + g k) n = sm f n + sm g n := by
  induction n with
  | zero => rfl
  | succ n ih => simp only [sm, ih]; omega
theorem sm_sub (f g : Nat → Int) (n : Nat) : sm (fun k => f k - g k) n = sm f n - sm g n := by
  induction n with
  | zero => rfl
  | succ n ih => simp only [sm, ih]; omega
theorem sm_zero {f : Nat → Int} {n : Nat} (h : ∀ k, k < n → f k = 0) : sm f n = 0 := by
  induction n with
  | zero => rfl
  | succ n ih => rw [sm, ih (fun k hk => h k (by omega)), h n (by omega)]; rfl
theorem sm_mul (c : Int) (f : Nat → Int) (n : Nat) : sm (fun k => c * f k) n = c * sm f n := by
  induction n with
  | zero => simp [sm]
  | succ n ih => simp only [sm, ih, Int.mul_add]
theorem sm_le {f g : Nat → Int} {n : Nat} (h : ∀ k, k < n → f k ≤ g k) : sm f n ≤ sm g n := by
  induction n with
  | zero => exact Int.le_refl _
  | succ n ih => have h1 := ih (fun k hk => h k (by omega)); have h2 := h n (by omega); simp only [sm]; omega
theorem sm_nn {f : Nat → Int} {n : Nat} (h : ∀ k, k < n → 0 ≤ f k) : 0 ≤ sm f n := by
  induction n with
  | zero => exact Int.le_refl _
  | succ n ih => have h1 := ih (fun k hk => h k (by omega)); have h2 := h n (by omega); simp only [sm]; omega
theorem sm_bd {f : Nat → Int} {c : Int} {n : Nat} (h : ∀ k, k < n → f k ≤ c) : sm f n ≤ n * c := by
  induction n with
  | zero => simp [sm]
  | succ n ih =>
    have h1 := ih (fun k hk => h k (by omega)); have h2 := h n (by omega)
    have h3 : ((n + 1 : Nat) : Int) * c = n * c + c := by push_cast; rw [Int.add_mul, Int.one_mul]
    simp only [sm]; omega
theorem sm_bdl {f : Nat → Int} {c : Int} {n : Nat} (h : ∀ k, k < n → -c ≤ f k) : -(n * c) ≤ sm f n := by
  induction n with
  | zero => simp [sm]
  | succ n ih =>
    have h1 := ih (fun k hk => h k (by omega)); have h2 := h n (by omega)
    have h3 : ((n + 1 : Nat) : Int) * c = n * c + c := by push_cast; rw [Int.add_mul, Int.one_mul]
    simp only [sm]; omega
theorem sm_mono {f : Nat → Int} {m n : Nat} (h : ∀ k, k < n → 0 ≤ f k) (hm : m ≤ n) : sm f m ≤ sm f n := by
  induction n with
  | zero => rw [show m = 0 by omega]; exact Int.le_refl _
  | succ n ih =>
    rcases Nat.lt_or_ge m (n + 1) with q | q
    · have h1 := ih (fun k hk => h k (by omega)) (by omega); have h2 := h n (by omega); simp only [sm]; omega
    · rw [show m = n + 1 by omega]; exact Int.le_refl _
theorem sm_swap (F : Nat → Nat → Int) (a b : Nat) : sm (fun i => sm (fun j => F i j) b) a = sm (fun j => sm (fun i => F i j) a) b := by
  induction a with
  | zero => exact (sm_zero (fun k _ => rfl)).symm
  | succ a ih => simp only [sm, ih, sm_add]
/-- one place alone counts -/
theorem sm_one {f : Nat → Int} {n i : Nat} (hi : i < n) (h : ∀ k, k < n → k ≠ i → f k = 0) : sm f n = f i := by
  induction n with
  | zero => omega
  | succ n ih =>
    rcases Nat.lt_or_ge i n with q | q
    · rw [sm, ih q (fun k hk hn => h k (by omega) hn), h n (by omega) (by omega), Int.add_zero]
    · rw [sm, show i = n by omega, sm_zero (fun k hk => h k (by omega) (by omega)), Int.zero_add]
theorem pd_pos {f : Nat → Int} {n : Nat} (h : ∀ k, k < n → 1 ≤ f k) : 1 ≤ pd f n := by
  induction n with
  | zero => exact Int.le_refl _
  | succ n ih =>
    have h1 := ih (fun k hk => h k (by omega)); have h2 := h n (by omega)
    rw [pd]
    calc (1 : Int) = 1 * 1 := rfl
      _ ≤ pd f n * f n := Int.mul_le_mul h1 h2 (by omega) (by omega)
theorem pd_le {f : Nat → Int} {n : Nat} (h : ∀ k, k < n → 1 ≤ f k ∧ f k ≤ 5) (hn : n ≤ 4) : pd f n ≤ 625 := by
  have key : ∀ m, m ≤ n → pd f m ≤ 5 ^ m := by
    intro m
    induction m with
    | zero => intro _; exact Int.le_refl _
    | succ m ih =>
      intro hm
      have h1 := ih (by omega)
      have h2 := h m (by omega)
      have h3 := pd_pos (n := m) (fun k hk => (h k (by omega)).1)
      rw [pd, Int.pow_succ]
      exact Int.mul_le_mul h1 h2.2 (by omega) (by omega)
  have h1 := key n (Nat.le_refl n)
  have h2 : (5 : Int) ^ n ≤ 625 := by
    rcases (show n = 0 ∨ n = 1 ∨ n = 2 ∨ n = 3 ∨ n = 4 by omega) with rfl | rfl | rfl | rfl | rfl <;> decide
  omega
theorem pd_mul (f g : Nat → Int) (n : Nat) : pd (fun k => f k * g k) n = pd f n * pd g n := by
  induction n with
  | zero => rfl
  | succ n ih => simp only [pd, ih]; rw [Int.mul_assoc, Int.mul_assoc]; congr 1; rw [← Int.mul_assoc, Int.mul_comm (pd g n) (f n), Int.mul_assoc]
/-- how many shares of day b one of day a has become: the splits D, F, m of them -/
def fac (D F : Nat → Int) (m : Nat) (a b : Int) : Int := pd (fun i => if a < D i ∧ D i ≤ b then F i else 1) m
/-- .. of the days behind the last -/
def fla (D F : Nat → Int) (m : Nat) (a : Int) : Int := pd (fun i => if a < D i then F i else 1) m
def SPV (D F : Nat → Int) (m : Nat) : Prop := m ≤ 4 ∧ ∀ i, i < m → (0 ≤ D i ∧ D i < 1825) ∧ 2 ≤ F i ∧ F i ≤ 5
theorem fac_bd {D F : Nat → Int} {m : Nat} (h : SPV D F m) (a b : Int) : 1 ≤ fac D F m a b ∧ fac D F m a b ≤ 625 := by
  have h1 : ∀ k, k < m → 1 ≤ (if a < D k ∧ D k ≤ b then F k else 1) ∧ (if a < D k ∧ D k ≤ b then F k else 1) ≤ 5 := by
    intro k hk; have := h.2 k hk; split <;> omega
  exact ⟨pd_pos (fun k hk => (h1 k hk).1), pd_le h1 h.1⟩
theorem fla_bd {D F : Nat → Int} {m : Nat} (h : SPV D F m) (a : Int) : 1 ≤ fla D F m a ∧ fla D F m a ≤ 625 := by
  have h1 : ∀ k, k < m → 1 ≤ (if a < D k then F k else 1) ∧ (if a < D k then F k else 1) ≤ 5 := by
    intro k hk; have := h.2 k hk; split <;> omega
  exact ⟨pd_pos (fun k hk => (h1 k hk).1), pd_le h1 h.1⟩
theorem fac_fla {D F : Nat → Int} {m : Nat} (h : SPV D F m) (a : Int) : fac D F m a 1825 = fla D F m a := by
  refine pd_congr fun k hk => ?_
  have := h.2 k hk
  by_cases q : a < D k
  · rw [if_pos ⟨q, by omega⟩, if_pos q]
  · rw [if_neg (fun z => q z.1), if_neg q]
theorem fac_mul {D F : Nat → Int} {m : Nat} {a b : Int} (hab : a ≤ b) : fac D F m a b * fla D F m b = fla D F m a := by
  unfold fac fla
  rw [← pd_mul]
  refine pd_congr fun k hk => ?_
  by_cases q : a < D k
  · by_cases q2 : D k ≤ b
    · rw [if_pos ⟨q, q2⟩, if_neg (by omega), if_pos q, Int.mul_one]
    · rw [if_neg (fun z => q2 z.2), if_pos (by omega), if_pos q, Int.one_mul]
  · rw [if_neg (fun z => q z.1), if_neg (by omega), if_neg q, Int.one_mul]
