-- the made list and the told list: the same matches, ranked by the rows of their sales
section RK
def mKey (x : MTup) : Nat := x.1
def eqK (k : Nat) (x : MTup) : Bool := decide (mKey x = k)
def ltK (k : Nat) (x : MTup) : Bool := decide (mKey x < k)
def lsum (g : MTup → Int) : List MTup → Int | [] => 0 | x :: l => g x + lsum g l
theorem lsum_app (g : MTup → Int) (a b : List MTup) : lsum g (a ++ b) = lsum g a + lsum g b := by
  induction a with
  | nil => simp [lsum]
  | cons x a ih => simp only [List.cons_append, lsum, ih]; omega
/-- sorted by the key, the order kept -/
def srt (M : List MTup) : Nat → List MTup | 0 => [] | k + 1 => srt M k ++ M.filter (eqK k)
theorem filt_split (M : List MTup) (k : Nat) : (M.filter (ltK (k + 1))).length = (M.filter (ltK k)).length + (M.filter (eqK k)).length := by
  induction M with
  | nil => rfl
  | cons x M ih =>
    simp only [List.filter_cons, ltK, eqK, decide_eq_true_eq] at ih ⊢
    by_cases a : mKey x < k
    · rw [if_pos (show mKey x < k + 1 by omega), if_pos a, if_neg (show ¬ mKey x = k by omega)]; simp only [List.length_cons]; omega
    · by_cases b : mKey x = k
      · rw [if_pos (show mKey x < k + 1 by omega), if_neg a, if_pos b]; simp only [List.length_cons]; omega
      · rw [if_neg (show ¬ mKey x < k + 1 by omega), if_neg a, if_neg b]; exact ih
theorem filt_sum (g : MTup → Int) (M : List MTup) (k : Nat) : lsum g (M.filter (ltK (k + 1))) = lsum g (M.filter (ltK k)) + lsum g (M.filter (eqK k)) := by
  induction M with
  | nil => rfl
  | cons x M ih =>
    simp only [List.filter_cons, ltK, eqK, decide_eq_true_eq] at ih ⊢
    by_cases a : mKey x < k
    · rw [if_pos (show mKey x < k + 1 by omega), if_pos a, if_neg (show ¬ mKey x = k by omega)]; simp only [lsum]; omega
    · by_cases b : mKey x = k
      · rw [if_pos (show mKey x < k + 1 by omega), if_neg a, if_pos b]; simp only [lsum]; omega
      · rw [if_neg (show ¬ mKey x < k + 1 by omega), if_neg a, if_neg b]; exact ih
theorem filt_none (M : List MTup) : M.filter (ltK 0) = [] := by
  rw [List.filter_eq_nil_iff]; intro x _; simp [ltK]
theorem filt_all {M : List MTup} {R : Nat} (h : ∀ x ∈ M, mKey x < R) : M.filter (ltK R) = M := by
  rw [List.filter_eq_self]; intro x hx; simp [ltK, h x hx]
theorem srt_len (M : List MTup) (k : Nat) : (srt M k).length = (M.filter (ltK k)).length := by
  induction k with
  | zero => rw [filt_none]; rfl
  | succ k ih => rw [srt, List.length_append, ih, filt_split]
theorem srt_sum (g : MTup → Int) (M : List MTup) (k : Nat) : lsum g (srt M k) = lsum g (M.filter (ltK k)) := by
  induction k with
  | zero => rw [filt_none]; rfl
  | succ k ih => rw [srt, lsum_app, ih, filt_sum]
/-- how many come ahead of the match i -/
def rnk (M : List MTup) (k i : Nat) : Nat := (M.filter (ltK k)).length + ((M.take i).filter (eqK k)).length
theorem filt_at (f : MTup → Bool) : ∀ (M : List MTup) (t : Nat), t < (M.filter f).length → ∃ (i : Nat) (x : MTup), M[i]? = some x ∧ f x = true ∧ ((M.take i).filter f).length = t := by
  intro M
  induction M with
  | nil => intro t h; simp at h
  | cons x M ih =>
    intro t h
    by_cases q : f x = true
    · rw [List.filter_cons_of_pos q] at h
      cases t with
      | zero => exact ⟨0, x, rfl, q, rfl⟩
      | succ t =>
        obtain ⟨i, y, h1, h2, h3⟩ := ih t (by simp only [List.length_cons] at h; omega)
        exact ⟨i + 1, y, by rw [List.getElem?_cons_succ]; exact h1, h2, by rw [List.take_succ_cons, List.filter_cons_of_pos q, List.length_cons, h3]⟩
    · rw [List.filter_cons_of_neg q] at h
      obtain ⟨i, y, h1, h2, h3⟩ := ih t h
      exact ⟨i + 1, y, by rw [List.getElem?_cons_succ]; exact h1, h2, by rw [List.take_succ_cons, List.filter_cons_of_neg q, h3]⟩
theorem filt_get (f : MTup → Bool) : ∀ (M : List MTup) (i : Nat) (x : MTup), M[i]? = some x → f x = true → (M.filter f)[((M.take i).filter f).length]? = some x := by
  intro M
  induction M with
  | nil => intro i x h; simp at h
  | cons y M ih =>
    intro i x h hf
    cases i with
    | zero =>
      rw [List.getElem?_cons_zero] at h
      cases h
      rw [List.filter_cons_of_pos hf]; rfl
    | succ i =>
      rw [List.getElem?_cons_succ] at h
      have h1 := ih i x h hf
      by_cases q : f y = true
      · rw [List.take_succ_cons, List.filter_cons_of_pos q, List.filter_cons_of_pos q, List.length_cons, List.getElem?_cons_succ]; exact h1
      · rw [List.take_succ_cons, List.filter_cons_of_neg q, List.filter_cons_of_neg q]; exact h1
theorem srt_get {M : List MTup} : ∀ {R i : Nat} {x : MTup}, M[i]? = some x → mKey x < R → (srt M R)[rnk M (mKey x) i]? = some x := by
  intro R
  induction R with
  | zero => intro i x _ h; omega
  | succ R ih =>
    intro i x hx hR
    rcases Nat.lt_or_ge (mKey x) R with q | q
    · have h1 := ih hx q
      rw [srt, List.getElem?_append_left (List.getElem?_eq_some_iff.mp h1).1]
      exact h1
    · have e : mKey x = R := by omega
      have h1 := filt_get (eqK (mKey x)) M i x hx (by simp [eqK])
      rw [srt, rnk, ← srt_len, e, List.getElem?_append_right (by omega), show (srt M R).length + (List.filter (eqK R) (List.take i M)).length - (srt M R).length = (List.filter (eqK R) (List.take i M)).length by omega]
      rw [e] at h1
      exact h1
theorem srt_from {M : List MTup} : ∀ {R t : Nat}, t < (srt M R).length → ∃ (i : Nat) (x : MTup), M[i]? = some x ∧ mKey x < R ∧ rnk M (mKey x) i = t := by
  intro R
  induction R with
  | zero => intro t h; simp [srt] at h
  | succ R ih =>
    intro t h
    rcases Nat.lt_or_ge t (srt M R).length with q | q
    · obtain ⟨i, x, h1, h2, h3⟩ := ih q
      exact ⟨i, x, h1, by omega, h3⟩
    · rw [srt, List.length_append] at h
      obtain ⟨i, x, h1, h2, h3⟩ := filt_at (eqK R) M (t - (srt M R).length) (by omega)
      have e : mKey x = R := by simpa [eqK] using h2
      exact ⟨i, x, h1, by omega, by rw [rnk, e, h3, ← srt_len]; omega⟩
/-- the count that the reference makes -/
theorem cnt_take (f : MTup → Bool) (M : List MTup) : ∀ n, n ≤ M.length → ((M.take n).filter f).length = sm (fun j => if (M[j]?.map f).getD false = true then 1 else 0) n := by
  intro n
  induction n with
  | zero => intro _; simp [sm]
  | succ n ih =>
    intro h
    have hx : M[n]? = some (M[n]'(by omega)) := List.getElem?_eq_getElem (by omega)
    rw [sm, ← ih (by omega), List.take_succ, List.filter_append, List.length_append, hx]
    simp only [Option.toList_some, Option.map_some, Option.getD_some]
    by_cases q : f (M[n]'(by omega)) = true
    · rw [if_pos q, List.filter_cons_of_pos q]; simp
    · rw [if_neg q, List.filter_cons_of_neg q]; simp
theorem rnk_sm {M : List MTup} {B : Nat → Int} (hB : ∀ j x, M[j]? = some x → B j = (mKey x : Int)) {i : Nat} {x : MTup} (hx : M[i]? = some x) :
    ((rnk M (mKey x) i : Nat) : Int) = sm (fun j => if B j < B i ∨ (B j = B i ∧ j < i) then 1 else 0) M.length := by
  have hi : i < M.length := (List.getElem?_eq_some_iff.mp hx).1
  have e1 := cnt_take (ltK (mKey x)) M M.length (Nat.le_refl _)
  have e2 := cnt_take (eqK (mKey x)) M i (by omega)
  rw [List.take_length] at e1
  have e3 : sm (fun j => if (M[j]?.map (eqK (mKey x))).getD false = true then (1 : Int) else 0) i = sm (fun j => if j < i ∧ (M[j]?.map (eqK (mKey x))).getD false = true then 1 else 0) M.length := by
    have h1 : ∀ n, n ≤ M.length → sm (fun j => if j < i ∧ (M[j]?.map (eqK (mKey x))).getD false = true then (1 : Int) else 0) n = sm (fun j => if (M[j]?.map (eqK (mKey x))).getD false = true then (1 : Int) else 0) (min n i) := by
      intro n
      induction n with
      | zero => intro _; rw [Nat.zero_min]; rfl
      | succ n ih =>
        intro h
        rw [sm, ih (by omega)]
        rcases Nat.lt_or_ge n i with q | q
        · rw [show min (n + 1) i = n + 1 by omega, show min n i = n by omega, sm]
          simp [q]
        · rw [show min (n + 1) i = i by omega, show min n i = i by omega, if_neg (fun z => by omega)]; omega
    rw [h1 _ (Nat.le_refl _), show min M.length i = i by omega]
  unfold rnk
  push_cast
  rw [e1, e2, e3, ← sm_add]
  refine sm_congr fun j hj => ?_
  have hy : M[j]? = some (M[j]'hj) := List.getElem?_eq_getElem hj
  have b1 := hB j _ hy
  have b2 := hB i x hx
  rw [hy]
  simp only [Option.map_some, Option.getD_some, ltK, eqK, decide_eq_true_eq]
  rw [b1, b2]
  by_cases q : mKey (M[j]'hj) < mKey x
  · rw [if_pos q, if_neg (by omega), if_pos (Or.inl (by omega))]; rfl
  · by_cases q2 : mKey (M[j]'hj) = mKey x
    · by_cases q3 : j < i
      · rw [if_neg q, if_pos ⟨q3, q2⟩, if_pos (Or.inr ⟨by omega, q3⟩)]; rfl
      · rw [if_neg q, if_neg (fun z => q3 z.1), if_neg (by omega)]; rfl
    · rw [if_neg q, if_neg (fun z => q2 z.2), if_neg (by omega)]; rfl
end RK
section RM
variable {D b s c p : Nat → Int} {w : Int} {R : Nat}
/-- the reference makes them in three rounds -/
def mSs (b s c p : Nat → Int) : Nat → List MTup | 0 => [] | k + 1 => mSs b s c p k ++ mSame b s c p k
def mLL (D b s c p : Nat → Int) (w : Int) (R : Nat) : Nat → List MTup | 0 => [] | k + 1 => mLL D b s c p w R k ++ mLats D b s c p w k R
def mPP (D b s c p : Nat → Int) (w : Int) (R : Nat) : Nat → List MTup | 0 => [] | k + 1 => mPP D b s c p w R k ++ mPool D b s c p w R k
def mMade (D b s c p : Nat → Int) (w : Int) (R : Nat) : List MTup := mSs b s c p R ++ (mLL D b s c p w R R ++ mPP D b s c p w R R)
theorem key_same {k : Nat} {x : MTup} (h : x ∈ mSame b s c p k) : mKey x = k := by
  unfold mSame at h
  split at h
  · rw [List.mem_singleton.mp h]; rfl
  · cases h
theorem key_lats {k : Nat} {x : MTup} : ∀ {m : Nat}, x ∈ mLats D b s c p w k m → mKey x = k := by
  intro m
  induction m with
  | zero => intro h; cases h
  | succ m ih =>
    intro h
    rcases List.mem_append.mp h with h | h
    · exact ih h
    · unfold mLat at h
      split at h
      · rw [List.mem_singleton.mp h]; rfl
      · cases h
theorem key_pool {k : Nat} {x : MTup} (h : x ∈ mPool D b s c p w R k) : mKey x = k := by
  unfold mPool at h
  split at h
  · rw [List.mem_singleton.mp h]; rfl
  · cases h
theorem filt_own {l : List MTup} {k : Nat} (h : ∀ x ∈ l, mKey x = k) (q : Nat) : l.filter (eqK q) = if q = k then l else [] := by
  by_cases e : q = k
  · rw [if_pos e, List.filter_eq_self]; intro x hx; simp [eqK, h x hx, e]
  · rw [if_neg e, List.filter_eq_nil_iff]; intro x hx; simp [eqK, h x hx]; omega
theorem filt_rounds {F : Nat → List MTup} {G : Nat → List MTup} (h0 : G 0 = []) (hs : ∀ k, G (k + 1) = G k ++ F k) (hk : ∀ k x, x ∈ F k → mKey x = k) (q : Nat) : ∀ n, (G n).filter (eqK q) = if q < n then F q else [] := by
  intro n
  induction n with
  | zero => rw [h0]; rfl
  | succ n ih =>
    rw [hs, List.filter_append, ih, filt_own (hk n)]
    by_cases a : q < n
    · rw [if_pos a, if_neg (by omega), if_pos (by omega), List.append_nil]
    · by_cases b : q = n
      · rw [if_neg a, if_pos b, if_pos (by omega), List.nil_append, b]
      · rw [if_neg a, if_neg b, if_neg (by omega)]; rfl
theorem key_rounds {F : Nat → List MTup} {G : Nat → List MTup} (h0 : G 0 = []) (hs : ∀ k, G (k + 1) = G k ++ F k) (hk : ∀ k x, x ∈ F k → mKey x = k) : ∀ n x, x ∈ G n → mKey x < n := by
  intro n
  induction n with
  | zero => intro x h; rw [h0] at h; cases h
  | succ n ih =>
    intro x h
    rw [hs] at h
    rcases List.mem_append.mp h with h | h
    · have := ih x h; omega
    · have := hk n x h; omega
theorem made_key {x : MTup} (h : x ∈ mMade D b s c p w R) : mKey x < R := by
  rcases List.mem_append.mp h with h | h
  · exact key_rounds (F := mSame b s c p) (G := mSs b s c p) rfl (fun _ => rfl) (fun k x h => key_same h) R x h
  · rcases List.mem_append.mp h with h | h
    · exact key_rounds (F := fun k => mLats D b s c p w k R) (G := mLL D b s c p w R) rfl (fun _ => rfl) (fun k x h => key_lats h) R x h
    · exact key_rounds (F := mPool D b s c p w R) (G := mPP D b s c p w R) rfl (fun _ => rfl) (fun k x h => key_pool h) R x h
theorem made_filt {q : Nat} (h : q < R) : (mMade D b s c p w R).filter (eqK q) = mSame b s c p q ++ (mLats D b s c p w q R ++ mPool D b s c p w R q) := by
  unfold mMade
  rw [List.filter_append, List.filter_append]
  rw [filt_rounds (F := mSame b s c p) (G := mSs b s c p) rfl (fun _ => rfl) (fun k x h => key_same h) q R, filt_rounds (F := fun k => mLats D b s c p w k R) (G := mLL D b s c p w R) rfl (fun _ => rfl) (fun k x h => key_lats h) q R, filt_rounds (F := mPool D b s c p w R) (G := mPP D b s c p w R) rfl (fun _ => rfl) (fun k x h => key_pool h) q R, if_pos h, if_pos h, if_pos h]
/-- told is made, sorted -/
theorem told_made : ∀ r, r ≤ R → mAll D b s c p w R r = srt (mMade D b s c p w R) r := by
  intro r
  induction r with
  | zero => intro _; rfl
  | succ r ih => intro h; rw [mAll, srt, ih (by omega), made_filt (by omega)]
theorem made_len : (mMade D b s c p w R).length = (mAll D b s c p w R R).length := by
  rw [told_made R (Nat.le_refl R), srt_len, filt_all (fun x h => made_key h)]
theorem made_sum (g : MTup → Int) : lsum g (mMade D b s c p w R) = lsum g (mAll D b s c p w R R) := by
  rw [told_made R (Nat.le_refl R), srt_sum, filt_all (fun x h => made_key h)]
end RM
