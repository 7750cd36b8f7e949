-- what a ledger holds
def addM (st : Nat → Nat → Int) (M : Nat) (k so bo u c p : Int) : Nat → Nat → Int :=
  stC (stC (stC (stC (stC (stC (stC st 15 (fnU (st 15) M k)) 16 (fnU (st 16) M so)) 17 (fnU (st 17) M bo)) 18 (fnU (st 18) M u)) 19 (fnU (st 19) M c)) 20 (fnU (st 20) M p)) 14 (fnU (st 14) 6 ((M : Int) + 1))
def bD (D : Nat → Int) (f : Int) : Int := if f < 0 then -1 else D f.toNat
/-- the matches' rows hold this list -/
def AL (st : Nat → Nat → Int) (D : Nat → Int) (l : List MTup) : Prop := st 14 6 = l.length ∧ ∀ i x, l[i]? = some x → st 15 i = x.2.2.1 ∧ st 16 i = D x.1 ∧ st 17 i = bD D x.2.1 ∧ st 18 i = x.2.2.2.1 ∧ st 19 i = x.2.2.2.2.1 ∧ st 20 i = x.2.2.2.2.2
theorem AL.fr {st st1 : Nat → Nat → Int} {D : Nat → Int} {l : List MTup} {S : List Nat} (h : AL st D l) (hf : Fr S st st1) (hS : ∀ k, k ∈ S → k < 14 ∨ 20 < k) : AL st1 D l := by
  have e : ∀ k, 14 ≤ k → k ≤ 20 → st1 k = st k := fun k h1 h2 => hf k (fun z => by have := hS k z; omega)
  refine ⟨by rw [e 14 (by omega) (by omega)]; exact h.1, fun i x hx => ?_⟩
  rw [e 15 (by omega) (by omega), e 16 (by omega) (by omega), e 17 (by omega) (by omega), e 18 (by omega) (by omega), e 19 (by omega) (by omega), e 20 (by omega) (by omega)]
  exact h.2 i x hx
theorem AL.D {st : Nat → Nat → Int} {D D' : Nat → Int} {l : List MTup} {R : Nat} (h : AL st D l) (hl : ∀ x ∈ l, x.1 < R ∧ x.2.1 < R) (e : ∀ r, r < R → D r = D' r) : AL st D' l := by
  refine ⟨h.1, fun i x hx => ?_⟩
  obtain ⟨h1, h2, h3, h4⟩ := h.2 i x hx
  obtain ⟨g1, g2⟩ := hl x (List.mem_of_getElem? hx)
  refine ⟨h1, by rw [h2, e _ g1], ?_, h4⟩
  rw [h3]; unfold bD
  split
  · rfl
  · rw [e _ (by omega)]
theorem addM_at (st : Nat → Nat → Int) (M : Nat) (k so bo u c p : Int) (i : Nat) : addM st M k so bo u c p 15 i = fnU (st 15) M k i ∧ addM st M k so bo u c p 16 i = fnU (st 16) M so i ∧ addM st M k so bo u c p 17 i = fnU (st 17) M bo i ∧ addM st M k so bo u c p 18 i = fnU (st 18) M u i ∧ addM st M k so bo u c p 19 i = fnU (st 19) M c i ∧ addM st M k so bo u c p 20 i = fnU (st 20) M p i ∧ addM st M k so bo u c p 14 6 = (M : Int) + 1 := ⟨rfl, rfl, rfl, rfl, rfl, rfl, rfl⟩
theorem addM_fr (st : Nat → Nat → Int) (M : Nat) (k so bo u c p : Int) : Fr [14, 15, 16, 17, 18, 19, 20] st (addM st M k so bo u c p) := by
  intro j hj
  simp only [List.mem_cons, List.not_mem_nil, or_false, not_or] at hj
  unfold addM
  rw [stC_ne (by omega), stC_ne (by omega), stC_ne (by omega), stC_ne (by omega), stC_ne (by omega), stC_ne (by omega), stC_ne (by omega)]
theorem AL.add {st : Nat → Nat → Int} {D : Nat → Int} {l : List MTup} (h : AL st D l) (x : MTup) {k so bo u c p : Int} (h1 : k = x.2.2.1) (h2 : so = D x.1) (h3 : bo = bD D x.2.1) (h4 : u = x.2.2.2.1) (h5 : c = x.2.2.2.2.1) (h6 : p = x.2.2.2.2.2) : AL (addM st l.length k so bo u c p) D (l ++ [x]) := by
  refine ⟨?_, fun i y hy => ?_⟩
  · rw [(addM_at st l.length k so bo u c p 0).2.2.2.2.2.2, List.length_append, List.length_singleton]; push_cast; rfl
  · obtain ⟨a1, a2, a3, a4, a5, a6, -⟩ := addM_at st l.length k so bo u c p i
    rw [a1, a2, a3, a4, a5, a6]
    rcases Nat.lt_or_ge i l.length with q | q
    · rw [List.getElem?_append_left q] at hy
      rw [fnU_ne (by omega), fnU_ne (by omega), fnU_ne (by omega), fnU_ne (by omega), fnU_ne (by omega), fnU_ne (by omega)]
      exact h.2 i y hy
    · have hi : i < (l ++ [x]).length := (List.getElem?_eq_some_iff.mp hy).1
      rw [List.length_append, List.length_singleton] at hi
      have e : i = l.length := by omega
      subst e
      rw [List.getElem?_append_right (Nat.le_refl _), Nat.sub_self] at hy
      cases hy
      rw [fnU_eq, fnU_eq, fnU_eq, fnU_eq, fnU_eq, fnU_eq]
      exact ⟨h1, h2, h3, h4, h5, h6⟩
/-- the sheet's rows hold these numbers -/
def RC (st : Nat → Nat → Int) (R : Nat) (D b c s p : Nat → Int) : Prop := st 4 9 = R ∧ ∀ r, r < R → st 5 r = D r ∧ st 6 r = b r ∧ st 8 r = c r ∧ st 9 r = s r ∧ st 11 r = p r
theorem RC.fr {st st1 : Nat → Nat → Int} {R : Nat} {D b c s p : Nat → Int} {S : List Nat} (h : RC st R D b c s p) (hf : Fr S st st1) (h4 : 4 ∉ S) (h5 : 5 ∉ S) (h6 : 6 ∉ S) (h8 : 8 ∉ S) (h9 : 9 ∉ S) (h11 : 11 ∉ S) : RC st1 R D b c s p := by
  refine ⟨by rw [hf 4 h4]; exact h.1, fun r hr => ?_⟩
  rw [hf 5 h5, hf 6 h6, hf 8 h8, hf 9 h9, hf 11 h11]
  exact h.2 r hr
def RN (R : Nat) (D b c s p : Nat → Int) : Prop := R ≤ 60 ∧ (∀ r q, r < q → q < R → D r < D q) ∧ (∀ r, r < R → 0 ≤ D r ∧ D r < 1825) ∧ (∀ j, 0 ≤ b j ∧ b j ≤ 37500000) ∧ (∀ j, 0 ≤ s j ∧ s j ≤ 37500000) ∧ (∀ j, 0 ≤ c j ∧ c j ≤ 60000000) ∧ (∀ j, 0 ≤ p j ∧ p j ≤ 60000000) ∧ (∀ r, r < R → 0 ≤ sm (fun i => b i - s i) (r + 1)) ∧ nsm (fun k => nz (b k) + nz (s k)) R ≤ 60 ∧ sm c R ≤ 60000000 ∧ sm p R ≤ 60000000 ∧ sm b R ≤ 37500000 ∧ sm s R ≤ 37500000
theorem nz_sm {f g : Nat → Int} {n : Nat} (h : ∀ k, k < n → 0 ≤ f k ∧ 0 ≤ g k ∧ (0 < f k → 1 ≤ g k)) : (nz (sm f n) : Int) ≤ sm g n ∧ 0 ≤ sm f n := by
  induction n with
  | zero => exact ⟨Int.le_refl _, Int.le_refl _⟩
  | succ n ih =>
    obtain ⟨h1, h2⟩ := ih (fun k hk => h k (by omega))
    obtain ⟨a, b, d⟩ := h n (by omega)
    rw [sm_succ, sm_succ]
    refine ⟨?_, by omega⟩
    unfold nz at h1 ⊢
    by_cases q : 0 < f n
    · have := d q
      split at h1 <;> split <;> push_cast at * <;> omega
    · rw [show f n = 0 by omega, Int.add_zero]; omega
theorem nsm_sm (f : Nat → Nat) (n : Nat) : ((nsm f n : Nat) : Int) = sm (fun k => (f k : Int)) n := by
  induction n with
  | zero => rfl
  | succ n ih => rw [nsm, sm_succ, ← ih]; push_cast; rfl
/-- bought, cost, sold, proceeds of a day of the share -/
def qB (L : Nat → Bool) (sa dy u : Nat → Int) (n : Nat) (D : Nat → Int) : Nat → Int := fun r => wsum L dy (wB sa u) n (D r)
def qS (L : Nat → Bool) (sa dy u : Nat → Int) (n : Nat) (D : Nat → Int) : Nat → Int := fun r => wsum L dy (wS sa u) n (D r)
/-- the holding of the share at the end of a day, in units -/
def hold (L : Nat → Bool) (sa dy u : Nat → Int) (n : Nat) (d : Int) : Int := wupto L dy (wB sa u) n d - wupto L dy (wS sa u) n d
theorem RN_of {sa ca sh dy ct mo SD SF : Nat → Int} {n m R : Nat} {v : Int} {D : Nat → Int} (hJ : JV sa ca sh dy ct mo n) (hS : SPV SD SF m) (hR : IsR (lvb ca sh v) dy n R D) (hh : ∀ d, 0 ≤ hold (lvb ca sh v) sa dy (uni ct dy SD SF m) n d) :
    RN R D (qB (lvb ca sh v) sa dy (uni ct dy SD SF m) n D) (qB (lvb ca sh v) sa dy mo n D) (qS (lvb ca sh v) sa dy (uni ct dy SD SF m) n D) (qS (lvb ca sh v) sa dy mo n D) := by
  have hn := hJ.1
  have hu : ∀ k, k < n → 0 ≤ uni ct dy SD SF m k ∧ uni ct dy SD SF m k ≤ 625000 := fun k hk => by have := uni_bd hJ hS hk; omega
  have hm : ∀ k, k < n → 0 ≤ mo k ∧ mo k ≤ 1000000 := fun k hk => (hJ.2 k hk).2.2.2.2.2
  have big : ∀ (x : Nat → Int) (c : Int), 0 ≤ c → (∀ k, k < n → 0 ≤ x k ∧ x k ≤ c) → ∀ j, 0 ≤ wsum (lvb ca sh v) dy x n (D j) ∧ wsum (lvb ca sh v) dy x n (D j) ≤ 60 * c := by
    intro x c hc hx j
    have h1 := wsum_nn (L := lvb ca sh v) (dy := dy) (fun k hk => (hx k hk).1) (D j)
    have h2 := wsum_le (L := lvb ca sh v) (dy := dy) hx (D j)
    have h3 : (n : Int) * c ≤ 60 * c := Int.mul_le_mul_of_nonneg_right (by omega) hc
    exact ⟨h1, by omega⟩
  have all : ∀ (x : Nat → Int) (c : Int), 0 ≤ c → (∀ k, k < n → 0 ≤ x k ∧ x k ≤ c) → sm (fun r => wsum (lvb ca sh v) dy x n (D r)) R ≤ 60 * c := by
    intro x c hc hx
    rw [rows_all hR]
    have h1 : sm (fun k => if lvb ca sh v k = true then x k else 0) n ≤ n * c := sm_bd fun k hk => by have := hx k hk; split <;> omega
    have h3 : (n : Int) * c ≤ 60 * c := Int.mul_le_mul_of_nonneg_right (by omega) hc
    omega
  refine ⟨Nat.le_trans hR.le hn, hR.2.2, fun r hr => ?_, ?_, ?_, ?_, ?_, fun r hr => ?_, ?_, ?_, ?_, ?_, ?_⟩
  · obtain ⟨k, hk, -, e⟩ := hR.1 r hr
    have := (hJ.2 k hk).2.2.2.1
    omega
  · exact fun j => big _ 625000 (by omega) (fun k hk => wB_bd hu hk) j
  · exact fun j => big _ 625000 (by omega) (fun k hk => wS_bd hu hk) j
  · exact fun j => big _ 1000000 (by omega) (fun k hk => wB_bd hm hk) j
  · exact fun j => big _ 1000000 (by omega) (fun k hk => wS_bd hm hk) j
  · have h1 : ∀ i, i < r + 1 → D i ≤ D r := fun i hi => by
      rcases Nat.lt_or_ge i r with q | q
      · have := hR.2.2 i r q hr; omega
      · rw [show i = r by omega]; exact Int.le_refl _
    have h2 : ∀ i, r + 1 ≤ i → i < R → D r < D i := fun i a b => hR.2.2 r i (by omega) b
    have e1 := rows_upto hR (wB sa (uni ct dy SD SF m)) (d := D r) (q := r + 1) (by omega) h1 h2
    have e2 := rows_upto hR (wS sa (uni ct dy SD SF m)) (d := D r) (q := r + 1) (by omega) h1 h2
    have h3 := hh (D r)
    rw [sm_sub]
    show 0 ≤ sm (fun r => wsum (lvb ca sh v) dy (wB sa (uni ct dy SD SF m)) n (D r)) (r + 1) - sm (fun r => wsum (lvb ca sh v) dy (wS sa (uni ct dy SD SF m)) n (D r)) (r + 1)
    rw [e1, e2]; exact h3
  · have e : ((nsm (fun k => nz (qB (lvb ca sh v) sa dy (uni ct dy SD SF m) n D k) + nz (qS (lvb ca sh v) sa dy (uni ct dy SD SF m) n D k)) R : Nat) : Int) ≤ 60 := by
      rw [nsm_sm]
      have h1 : sm (fun k => ((nz (qB (lvb ca sh v) sa dy (uni ct dy SD SF m) n D k) + nz (qS (lvb ca sh v) sa dy (uni ct dy SD SF m) n D k) : Nat) : Int)) R ≤ sm (fun r => wsum (lvb ca sh v) dy (fun _ => 1) n (D r)) R := by
        refine sm_le fun r _ => ?_
        have a1 : (nz (qB (lvb ca sh v) sa dy (uni ct dy SD SF m) n D r) : Int) ≤ sm (fun k => if lvb ca sh v k = true ∧ dy k = D r then (if sa k = 0 then 1 else 0) else 0) n := by
          refine (nz_sm fun k hk => ?_).1
          have := wB_bd (sa := sa) hu hk
          have hx : 0 < wB sa (uni ct dy SD SF m) k → sa k = 0 := fun z => by
            by_cases y : sa k = 0
            · exact y
            · unfold wB at z; rw [if_neg y] at z; omega
          by_cases q : lvb ca sh v k = true ∧ dy k = D r
          · rw [if_pos q, if_pos q]
            exact ⟨this.1, by split <;> omega, fun z => by rw [if_pos (hx z)]; omega⟩
          · rw [if_neg q, if_neg q]; omega
        have a2 : (nz (qS (lvb ca sh v) sa dy (uni ct dy SD SF m) n D r) : Int) ≤ sm (fun k => if lvb ca sh v k = true ∧ dy k = D r then (if sa k = 0 then 0 else 1) else 0) n := by
          refine (nz_sm fun k hk => ?_).1
          have := wS_bd (sa := sa) hu hk
          have hx : 0 < wS sa (uni ct dy SD SF m) k → ¬ sa k = 0 := fun z y => by
            unfold wS at z; rw [if_pos y] at z; omega
          by_cases q : lvb ca sh v k = true ∧ dy k = D r
          · rw [if_pos q, if_pos q]
            exact ⟨this.1, by split <;> omega, fun z => by rw [if_neg (hx z)]; omega⟩
          · rw [if_neg q, if_neg q]; omega
        have a3 : sm (fun k => if lvb ca sh v k = true ∧ dy k = D r then (if sa k = 0 then (1 : Int) else 0) else 0) n + sm (fun k => if lvb ca sh v k = true ∧ dy k = D r then (if sa k = 0 then (0 : Int) else 1) else 0) n = wsum (lvb ca sh v) dy (fun _ => 1) n (D r) := by
          rw [← sm_add]
          refine sm_congr fun k _ => ?_
          by_cases q : lvb ca sh v k = true ∧ dy k = D r
          · rw [if_pos q, if_pos q, if_pos q]; show _ = (1 : Int); split <;> omega
          · rw [if_neg q, if_neg q, if_neg q]; rfl
        push_cast; omega
      rw [rows_all hR] at h1
      have h2 : sm (fun k => if lvb ca sh v k = true then (1 : Int) else 0) n ≤ n * 1 := sm_bd fun k _ => by split <;> omega
      omega
    omega
  · exact all _ 1000000 (by omega) (fun k hk => wB_bd hm hk)
  · exact all _ 1000000 (by omega) (fun k hk => wS_bd hm hk)
  · exact all _ 625000 (by omega) (fun k hk => wB_bd hu hk)
  · exact all _ 625000 (by omega) (fun k hk => wS_bd hu hk)
theorem wsum_live {L : Nat → Bool} {dy w : Nat → Int} {k : Nat} {d : Int} (hL : L k = true) (hd : dy k = d) : wsum L dy w (k + 1) d = wsum L dy w k d + w k := by
  unfold wsum; rw [sm_succ, if_pos ⟨hL, hd⟩]
theorem wsum_dead {L : Nat → Bool} {dy w : Nat → Int} {k : Nat} {d : Int} (h : ¬ (L k = true ∧ dy k = d)) : wsum L dy w (k + 1) d = wsum L dy w k d := by
  unfold wsum; rw [sm_succ, if_neg h, Int.add_zero]
