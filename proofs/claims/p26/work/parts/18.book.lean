-- the book: what the trades are, what a state keeps
def Fr (S : List Nat) (st st1 : Nat → Nat → Int) : Prop := ∀ k, k ∉ S → st1 k = st k
theorem Fr.rf {S : List Nat} {st : Nat → Nat → Int} : Fr S st st := fun _ _ => rfl
theorem Fr.tr {S S' : List Nat} {a b c : Nat → Nat → Int} (h : Fr S a b) (h' : Fr S' b c) (T : List Nat) (hT : ∀ k, k ∈ S ++ S' → k ∈ T) : Fr T a c := fun k hk => (h' k (fun z => hk (hT k (List.mem_append_right _ z)))).trans (h k (fun z => hk (hT k (List.mem_append_left _ z))))
theorem Fr.up {S T : List Nat} {a b : Nat → Nat → Int} (h : Fr S a b) (hT : ∀ k, k ∈ S → k ∈ T) : Fr T a b := fun k hk => h k (fun z => hk (hT k z))
theorem Fr.st {S : List Nat} {a b : Nat → Nat → Int} (h : Fr S a b) {k : Nat} {f : Nat → Int} (hk : k ∈ S) : Fr S a (stC b k f) := fun j hj => (stC_ne (fun e => hj (by rw [e]; exact hk))).trans (h j hj)
/-- the trades are in their ranges -/
def JV (sa ca sh dy ct mo : Nat → Int) (n : Nat) : Prop := n ≤ 60 ∧ ∀ k, k < n → (sa k = 0 ∨ sa k = 1) ∧ (ca k = 0 ∨ ca k = 1) ∧ (0 ≤ sh k ∧ sh k < 3) ∧ (0 ≤ dy k ∧ dy k < 1825) ∧ (1 ≤ ct k ∧ ct k ≤ 1000) ∧ (0 ≤ mo k ∧ mo k ≤ 1000000)
def lvb (ca sh : Nat → Int) (v : Int) : Nat → Bool := fun k => decide (sh k = v ∧ ca k = 0)
theorem lvb_t {ca sh : Nat → Int} {v : Int} {k : Nat} : lvb ca sh v k = true ↔ sh k = v ∧ ca k = 0 := by simp [lvb]
/-- of buys, of sales -/
def wB (sa f : Nat → Int) : Nat → Int := fun k => if sa k = 0 then f k else 0
def wS (sa f : Nat → Int) : Nat → Int := fun k => if sa k = 0 then 0 else f k
/-- the units of a trade -/
def uni (ct dy D F : Nat → Int) (m : Nat) : Nat → Int := fun k => ct k * fla D F m (dy k)
theorem uni_bd {sa ca sh dy ct mo D F : Nat → Int} {n m : Nat} (hJ : JV sa ca sh dy ct mo n) (hS : SPV D F m) {k : Nat} (hk : k < n) : 1 ≤ uni ct dy D F m k ∧ uni ct dy D F m k ≤ 625000 := by
  obtain ⟨-, -, -, -, h, -⟩ := hJ.2 k hk
  have h2 := fla_bd hS (dy k)
  refine ⟨?_, ?_⟩
  · calc (1 : Int) = 1 * 1 := rfl
      _ ≤ ct k * fla D F m (dy k) := Int.mul_le_mul h.1 h2.1 (by omega) (by omega)
  · calc ct k * fla D F m (dy k) ≤ 1000 * 625 := Int.mul_le_mul h.2 h2.2 (by omega) (by omega)
      _ = 625000 := rfl
theorem wB_bd {sa f : Nat → Int} {n : Nat} {c : Int} (h : ∀ k, k < n → 0 ≤ f k ∧ f k ≤ c) {k : Nat} (hk : k < n) : 0 ≤ wB sa f k ∧ wB sa f k ≤ c := by
  have := h k hk; unfold wB; split <;> omega
theorem wS_bd {sa f : Nat → Int} {n : Nat} {c : Int} (h : ∀ k, k < n → 0 ≤ f k ∧ f k ≤ c) {k : Nat} (hk : k < n) : 0 ≤ wS sa f k ∧ wS sa f k ≤ c := by
  have := h k hk; unfold wS; split <;> omega
