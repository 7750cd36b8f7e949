-- books by numbers: what they answer, by computing
section EVA
def ev_n (l : List Int) (k : Nat) : Int := l.getD k 0
/-- a book out of rows of numbers: window, share, day, count, money, sale, gone of the trades, splits, their days and factors, allowances -/
def ev_b (w : Int) (sh dy ct mo sa ca m7 d8 f9 al : List Int) : Nat → Nat → Int := fun c k => match c with
  | 0 => if k = 0 then (sh.length : Int) else if k = 11 then w else 0
  | 1 => ev_n sh k
  | 2 => ev_n dy k
  | 3 => ev_n ct k
  | 4 => ev_n mo k
  | 5 => ev_n sa k
  | 6 => ev_n ca k
  | 7 => ev_n m7 k
  | 8 => ev_n d8 k
  | 9 => ev_n f9 k
  | 10 => ev_n al k
  | _ => 0
def ev_eq (a b : Nat → Nat → Int) : Bool := decide (a 0 0 = b 0 0) && (decide (a 0 11 = b 0 11) && ((List.range (bN a)).all (fun k => decide (a 1 k = b 1 k) && (decide (a 2 k = b 2 k) && (decide (a 3 k = b 3 k) && (decide (a 4 k = b 4 k) && (decide (a 5 k = b 5 k) && decide (a 6 k = b 6 k)))))) && ((List.range 3).all (fun v => decide (a 7 v = b 7 v) && (List.range (bM a v)).all (fun i => decide (a 8 (4 * v + i) = b 8 (4 * v + i)) && decide (a 9 (4 * v + i) = b 9 (4 * v + i)))) && (List.range 5).all (fun y => decide (a 10 y = b 10 y)))))
theorem ev_eq_ok {a b : Nat → Nat → Int} (h : ev_eq a b = true) : BEq a b := by
  simp only [ev_eq, Bool.and_eq_true, decide_eq_true_eq, List.all_eq_true, List.mem_range] at h
  exact h
def ev_row (b : Nat → Nat → Int) (v : Nat) (D : List Int) : Bool := (List.range D.length).all (fun r => (List.range (bN b)).any (fun k => bL b v k && decide (b 2 k = ev_n D r))) && ((List.range (bN b)).all (fun k => !(bL b v k) || (List.range D.length).any (fun r => decide (ev_n D r = b 2 k))) && (List.range D.length).all (fun q => (List.range q).all (fun r => decide (ev_n D r < ev_n D q))))
theorem ev_row_ok {b : Nat → Nat → Int} {v : Nat} {D : List Int} (h : ev_row b v D = true) : bRow b v D.length (ev_n D) := by
  simp only [ev_row, Bool.and_eq_true, decide_eq_true_eq, List.all_eq_true, List.any_eq_true, List.mem_range, Bool.or_eq_true, Bool.not_eq_true'] at h
  obtain ⟨h1, h2, h3⟩ := h
  refine ⟨fun r hr => ?_, fun k hk hL => ?_, fun r q hr hq => h3 q hq r hr⟩
  · obtain ⟨k, g1, g2, g3⟩ := h1 r hr
    exact ⟨k, g1, g2, g3⟩
  · rcases h2 k hk with g | ⟨r, g1, g2⟩
    · rw [hL] at g; cases g
    · exact ⟨r, g1, g2⟩
section CGR
variable {D D' b b' s s' c c' p p' : Nat → Int} {w : Int} {R : Nat}
theorem slw_cg {bl bl' : Nat → Int} {k : Nat} (hk : k < R) (hD : ∀ r, r < R → D r = D' r) (hb : ∀ r, r < R → bl r = bl' r) (s0 : Int) : ∀ j, j ≤ R → slw D bl w k s0 j = slw D' bl' w k s0 j := by
  intro j
  induction j with
  | zero => intro _; rfl
  | succ j ih =>
    intro hj
    rw [slw, slw, ih (by omega), hD j (by omega), hD k hk, hb j (by omega)]
theorem blw_cg (hD : ∀ r, r < R → D r = D' r) (hb : ∀ r, r < R → b r = b' r) (hs : ∀ r, r < R → s r = s' r) : ∀ k, k ≤ R → ∀ j, j < R → blw D b s w k j = blw D' b' s' w k j := by
  intro k
  induction k with
  | zero => intro _ j hj; rw [blw_0, blw_0, hb j hj, hs j hj]
  | succ k ih =>
    intro hk j hj
    have h1 := ih (by omega)
    rw [blw, blw, h1 j hj, slw_cg (w := w) (show k < R by omega) hD h1 _ j (by omega), hD j hj, hD k (by omega), hb k (by omega), hs k (by omega)]
theorem slft_cg (hD : ∀ r, r < R → D r = D' r) (hb : ∀ r, r < R → b r = b' r) (hs : ∀ r, r < R → s r = s' r) {k j : Nat} (hk : k < R) (hj : j ≤ R) : slft D b s w k j = slft D' b' s' w k j := by
  unfold slft
  rw [slw_cg (w := w) hk hD (blw_cg (w := w) hD hb hs k (by omega)) _ j hj, hb k hk, hs k hk]
theorem utk_cg (hD : ∀ r, r < R → D r = D' r) (hb : ∀ r, r < R → b r = b' r) (hs : ∀ r, r < R → s r = s' r) {k j : Nat} (hk : k < R) (hj : j < R) : utk D b s w k j = utk D' b' s' w k j := by
  unfold utk
  rw [slft_cg (w := w) hD hb hs hk (show j ≤ R by omega), blw_cg (w := w) hD hb hs k (by omega) j hj, hD j hj, hD k hk]
theorem pU_cg (hD : ∀ r, r < R → D r = D' r) (hb : ∀ r, r < R → b r = b' r) (hs : ∀ r, r < R → s r = s' r) : ∀ r, r ≤ R → pU D b s w R r = pU D' b' s' w R r := by
  intro r
  induction r with
  | zero => intro _; rfl
  | succ r ih =>
    intro hr
    rw [pU, pU, ih (by omega), blw_cg (w := w) hD hb hs R (Nat.le_refl _) r (by omega), slft_cg (w := w) hD hb hs (show r < R by omega) (Nat.le_refl R)]
theorem pC_cg (hD : ∀ r, r < R → D r = D' r) (hb : ∀ r, r < R → b r = b' r) (hs : ∀ r, r < R → s r = s' r) (hc : ∀ r, r < R → c r = c' r) : ∀ r, r ≤ R → pC D b s c w R r = pC D' b' s' c' w R r := by
  intro r
  induction r with
  | zero => intro _; rfl
  | succ r ih =>
    intro hr
    rw [pC, pC, ih (by omega), blw_cg (w := w) hD hb hs R (Nat.le_refl _) r (by omega), slft_cg (w := w) hD hb hs (show r < R by omega) (Nat.le_refl R), pU_cg (w := w) hD hb hs r (by omega), hc r (by omega), hb r (by omega)]
theorem mLats_cg (hD : ∀ r, r < R → D r = D' r) (hb : ∀ r, r < R → b r = b' r) (hs : ∀ r, r < R → s r = s' r) (hc : ∀ r, r < R → c r = c' r) (hp : ∀ r, r < R → p r = p' r) {k : Nat} (hk : k < R) : ∀ j, j ≤ R → mLats D b s c p w k j = mLats D' b' s' c' p' w k j := by
  intro j
  induction j with
  | zero => intro _; rfl
  | succ j ih =>
    intro hj
    rw [mLats, mLats, ih (by omega)]
    congr 1
    unfold mLat
    rw [utk_cg (w := w) hD hb hs hk (show j < R by omega), blw_cg (w := w) hD hb hs k (by omega) j (by omega), slft_cg (w := w) hD hb hs hk (show j ≤ R by omega), hc j (by omega), hb j (by omega), hp k hk, hs k hk]
theorem mAll_cg (hD : ∀ r, r < R → D r = D' r) (hb : ∀ r, r < R → b r = b' r) (hs : ∀ r, r < R → s r = s' r) (hc : ∀ r, r < R → c r = c' r) (hp : ∀ r, r < R → p r = p' r) : ∀ r, r ≤ R → mAll D b s c p w R r = mAll D' b' s' c' p' w R r := by
  intro r
  induction r with
  | zero => intro _; rfl
  | succ r ih =>
    intro hr
    rw [mAll, mAll, ih (by omega), mLats_cg (w := w) hD hb hs hc hp (show r < R by omega) R (Nat.le_refl R)]
    congr 2
    · unfold mSame
      rw [hb r (by omega), hs r (by omega), hc r (by omega), hp r (by omega)]
    · congr 1
      unfold mPool tkC hC
      rw [slft_cg (w := w) hD hb hs (show r < R by omega) (Nat.le_refl R), pC_cg (w := w) hD hb hs hc r (by omega), pU_cg (w := w) hD hb hs r (by omega), blw_cg (w := w) hD hb hs R (Nat.le_refl _) r (by omega), hb r (by omega), hs r (by omega), hc r (by omega), hp r (by omega)]
end CGR
def ev_rf (b : Nat → Nat → Int) (v : Nat) (D Q C S P : List Int) (M : List MTup) (U K : List Int) : Bool :=
  ev_row b v D && ((List.range D.length).all (fun r => decide (bQ b v (ev_n D) r = ev_n Q r) && (decide (bC b v (ev_n D) r = ev_n C r) && (decide (bS b v (ev_n D) r = ev_n S r) && decide (bP b v (ev_n D) r = ev_n P r)))) && (decide (mAll (ev_n D) (ev_n Q) (ev_n S) (ev_n C) (ev_n P) (b 0 11) D.length D.length = M) && ((List.range (D.length + 1)).all (fun q => decide (pU (ev_n D) (ev_n Q) (ev_n S) (b 0 11) D.length q = ev_n U q) && decide (pC (ev_n D) (ev_n Q) (ev_n S) (ev_n C) (b 0 11) D.length q = ev_n K q)) && M.all (fun x => decide (x.1 < D.length) && decide (x.2.1 < (D.length : Int))))))
/-- what a class that says the book b shows of the share v -/
def SE (x b : Nat → Nat → Int) (v : Nat) (D : List Int) (M : List MTup) (U K : List Int) : Prop :=
  xR x v = D.length ∧ (∀ r, r < D.length → xD x v r = ev_n D r) ∧ bAA b v (xR x v) (xD x v) = M ∧ (∀ q, q ≤ D.length → bPU b v (xR x v) (xD x v) q = ev_n U q ∧ bPC b v (xR x v) (xD x v) q = ev_n K q) ∧ ∀ y ∈ M, y.1 < D.length ∧ y.2.1 < (D.length : Int)
theorem ev_see {x b : Nat → Nat → Int} {v : Nat} {D Q C S P : List Int} {M : List MTup} {U K : List Int} (hX : XI x b) (hv : v < 3) (h : ev_rf b v D Q C S P M U K = true) : SE x b v D M U K := by
  simp only [ev_rf, Bool.and_eq_true, decide_eq_true_eq, List.all_eq_true, List.mem_range] at h
  obtain ⟨h1, h2, h3, h4, h5⟩ := h
  obtain ⟨-, hR, -⟩ := hX.2.2.1 v hv
  have hR : bRow b v (xR x v) (xD x v) := hR
  obtain ⟨e1, e2⟩ := hR.uniq (ev_row_ok h1)
  rw [e1] at e2
  have eQ : ∀ r, r < D.length → bQ b v (xD x v) r = ev_n Q r := fun r hr => by
    have g := (h2 r hr).1
    rw [← g]
    show wsum _ _ _ _ (xD x v r) = wsum _ _ _ _ (ev_n D r)
    rw [e2 r hr]
  have eC : ∀ r, r < D.length → bC b v (xD x v) r = ev_n C r := fun r hr => by
    have g := (h2 r hr).2.1
    rw [← g]
    show wsum _ _ _ _ (xD x v r) = wsum _ _ _ _ (ev_n D r)
    rw [e2 r hr]
  have eS : ∀ r, r < D.length → bS b v (xD x v) r = ev_n S r := fun r hr => by
    have g := (h2 r hr).2.2.1
    rw [← g]
    show wsum _ _ _ _ (xD x v r) = wsum _ _ _ _ (ev_n D r)
    rw [e2 r hr]
  have eP : ∀ r, r < D.length → bP b v (xD x v) r = ev_n P r := fun r hr => by
    have g := (h2 r hr).2.2.2
    rw [← g]
    show wsum _ _ _ _ (xD x v r) = wsum _ _ _ _ (ev_n D r)
    rw [e2 r hr]
  refine ⟨e1, e2, ?_, fun q hq => ⟨?_, ?_⟩, h5⟩
  · rw [e1, ← h3]
    exact mAll_cg e2 eQ eS eC eP _ (Nat.le_refl _)
  · rw [e1, ← (h4 q (by omega)).1]
    exact pU_cg e2 eQ eS q hq
  · rw [e1, ← (h4 q (by omega)).2]
    exact pC_cg e2 eQ eS eC q hq
def ev_cut (D : List Int) (d : Int) (q : Nat) : Bool := decide (q ≤ D.length) && ((List.range q).all (fun r => decide (ev_n D r ≤ d)) && (List.range D.length).all (fun r => decide (r < q) || decide (d < ev_n D r)))
section SEs
variable {x b : Nat → Nat → Int} {v : Nat} {D : List Int} {M : List MTup} {U K : List Int}
theorem SE.cut (h : SE x b v D M U K) {d : Int} {q q0 : Nat} (hq : cutR (xD x v) (xR x v) d q) (hc : ev_cut D d q0 = true) : q = q0 ∧ q0 ≤ D.length := by
  simp only [ev_cut, Bool.and_eq_true, decide_eq_true_eq, List.all_eq_true, List.mem_range, Bool.or_eq_true] at hc
  obtain ⟨c1, c2, c3⟩ := hc
  refine ⟨hq.uniq ⟨by rw [h.1]; exact c1, fun r hr => ?_, fun r h1 h2 => ?_⟩, c1⟩
  · rw [h.2.1 r (by omega)]; exact c2 r hr
  · rw [h.1] at h2
    rw [h.2.1 r h2]
    rcases c3 r h2 with g | g
    · omega
    · exact g
theorem SE.pu (h : SE x b v D M U K) {d z : Int} (hz : ∃ q, cutR (xD x v) (xR x v) d q ∧ z = bPU b v (xR x v) (xD x v) q) (q0 : Nat) (w : Int) (hc : (ev_cut D d q0 && decide (ev_n U q0 = w)) = true) : z = w := by
  simp only [Bool.and_eq_true, decide_eq_true_eq] at hc
  obtain ⟨q, h1, h2⟩ := hz
  obtain ⟨e1, e2⟩ := h.cut h1 hc.1
  subst e1
  rw [h2, (h.2.2.2.1 q e2).1, hc.2]
theorem SE.pc (h : SE x b v D M U K) {d z : Int} (hz : ∃ q, cutR (xD x v) (xR x v) d q ∧ z = bPC b v (xR x v) (xD x v) q) (q0 : Nat) (w : Int) (hc : (ev_cut D d q0 && decide (ev_n K q0 = w)) = true) : z = w := by
  simp only [Bool.and_eq_true, decide_eq_true_eq] at hc
  obtain ⟨q, h1, h2⟩ := hz
  obtain ⟨e1, e2⟩ := h.cut h1 hc.1
  subst e1
  rw [h2, (h.2.2.2.1 q e2).2, hc.2]
theorem SE.len (h : SE x b v D M U K) {z : Int} (hz : z = ((bAA b v (xR x v) (xD x v)).length : Int)) (w : Int) (hw : ((M.length : Nat) : Int) = w) : z = w := by
  rw [hz, h.2.2.1, hw]
theorem SE.sum (h : SE x b v D M U K) (g : MTup → Int) : lsum g (bMM b v (xR x v) (xD x v)) = lsum g M := by
  rw [← h.2.2.1]
  exact made_sum g
theorem SE.cm (h : SE x b v D M U K) {z : Int} (hz : z = lsum mco (bMM b v (xR x v) (xD x v))) (w : Int) (hw : lsum mco M = w) : z = w := by
  rw [hz, h.sum, hw]
theorem SE.g (h : SE x b v D M U K) (y : Int) : lsum (gG (xD x v) y) (bMM b v (xR x v) (xD x v)) = lsum (gG (ev_n D) y) M := by
  rw [h.sum]
  refine lsum_congr fun t ht => ?_
  unfold gG
  rw [h.2.1 _ (h.2.2.2.2 t ht).1]
theorem SE.gain (h : SE x b v D M U K) {y z : Int} (hz : z = lsum (gG (xD x v) y) (bMM b v (xR x v) (xD x v))) (w : Int) (hw : lsum (gG (ev_n D) y) M = w) : z = w := by
  rw [hz, h.g, hw]
/-- the match pl of the share v, as a class that says b tells it -/
def ISM (x b : Nat → Nat → Int) (v : Nat) (pl kd sd bd un co pr : Int) : Prop :=
  (0 ≤ pl ∧ pl < (bAA b v (xR x v) (xD x v)).length) ∧ ∀ y, (bAA b v (xR x v) (xD x v))[pl.toNat]? = some y → y.2.2.1 = kd ∧ xD x v y.1 = sd ∧ bD (xD x v) y.2.1 = bd ∧ y.2.2.2.1 = un ∧ mco y = co ∧ mpr y = pr
def ev_mt (D : List Int) (M : List MTup) (i : Nat) (kd sd bd un co pr : Int) : Bool := match M[i]? with
  | some y => decide (y.2.2.1 = kd) && (decide (ev_n D y.1 = sd) && (decide ((if y.2.1 < 0 then -1 else ev_n D y.2.1.toNat) = bd) && (decide (y.2.2.2.1 = un) && (decide (mco y = co) && decide (mpr y = pr)))))
  | none => false
theorem SE.mt (h : SE x b v D M U K) (i : Nat) {pl kd sd bd un co pr : Int} (hp : pl = (i : Int)) (hc : ev_mt D M i kd sd bd un co pr = true) : ISM x b v pl kd sd bd un co pr := by
  subst hp
  unfold ev_mt at hc
  cases hM : M[i]? with
  | none => rw [hM] at hc; cases hc
  | some y0 =>
    rw [hM] at hc
    simp only [Bool.and_eq_true, decide_eq_true_eq] at hc
    have hi : i < M.length := (List.getElem?_eq_some_iff.mp hM).1
    have hm : y0 ∈ M := List.mem_of_getElem? hM
    obtain ⟨h5, h6⟩ := h.2.2.2.2 y0 hm
    refine ⟨by rw [h.2.2.1]; omega, fun y hy => ?_⟩
    rw [h.2.2.1, show ((i : Int)).toNat = i by omega, hM] at hy
    cases hy
    obtain ⟨c1, c2, c3, c4, c5, c6⟩ := hc
    refine ⟨c1, by rw [h.2.1 _ h5]; exact c2, ?_, c4, c5, c6⟩
    rw [← c3]
    unfold bD
    split
    · rfl
    · exact h.2.1 _ (by omega)
end SEs
-- years
def YE (x b : Nat → Nat → Int) (N A : List Int) : Prop := (∀ y : Nat, y < 5 → yN b (xR x) (xD x) (y : Int) = ev_n N y) ∧ ∀ y, y < 5 → b 10 y = ev_n A y
def ev_yn (b : Nat → Nat → Int) (D0 D1 D2 : List Int) (M0 M1 M2 : List MTup) (N A : List Int) : Bool := (List.range 5).all (fun y => decide (lsum (gG (ev_n D0) (y : Int)) M0 + lsum (gG (ev_n D1) (y : Int)) M1 + lsum (gG (ev_n D2) (y : Int)) M2 = ev_n N y) && decide (b 10 y = ev_n A y))
section YEs
variable {x b : Nat → Nat → Int} {D0 D1 D2 : List Int} {M0 M1 M2 : List MTup} {U0 U1 U2 K0 K1 K2 N A : List Int}
theorem YE.of (h0 : SE x b 0 D0 M0 U0 K0) (h1 : SE x b 1 D1 M1 U1 K1) (h2 : SE x b 2 D2 M2 U2 K2) (h : ev_yn b D0 D1 D2 M0 M1 M2 N A = true) : YE x b N A := by
  simp only [ev_yn, Bool.and_eq_true, decide_eq_true_eq, List.all_eq_true, List.mem_range] at h
  refine ⟨fun y hy => ?_, fun y hy => (h y hy).2⟩
  have g := (h y hy).1
  unfold yN yG
  rw [h0.g, h1.g, h2.g]
  exact g
def ev_yA (N A : List Int) (y : Nat) : Int := max 0 (ev_n N y - ev_n A y)
def ev_yL (N A : List Int) : Nat → Int
  | 0 => 0
  | y + 1 => if ev_n N y < 0 then ev_yL N A y - ev_n N y else ev_yL N A y - min (ev_yL N A y) (ev_yA N A y)
theorem YE.a (h : YE x b N A) {y : Nat} (hy : y < 5) : yA b (xR x) (xD x) y = ev_yA N A y := by
  unfold yA ev_yA
  rw [h.1 y hy, h.2 y hy]
theorem YE.l (h : YE x b N A) : ∀ y, y ≤ 5 → yL b (xR x) (xD x) y = ev_yL N A y := by
  intro y
  induction y with
  | zero => intro _; rfl
  | succ y ih =>
    intro hy
    rw [yL, ev_yL, ih (by omega), h.1 y (by omega), h.a (by omega)]
theorem YE.net (h : YE x b N A) {z : Int} (y : Nat) (hy : y < 5) (hz : z = yN b (xR x) (xD x) (y : Int)) (w : Int) (hw : ev_n N y = w) : z = w := by rw [hz, h.1 y hy, hw]
theorem YE.car (h : YE x b N A) {z : Int} (y : Nat) (hy : y < 5) (hz : z = yL b (xR x) (xD x) (y + 1)) (w : Int) (hw : ev_yL N A (y + 1) = w) : z = w := by rw [hz, h.l _ (by omega), hw]
theorem YE.tax (h : YE x b N A) {z : Int} (y : Nat) (hy : y < 5) (hz : z = max 0 (yA b (xR x) (xD x) y - yL b (xR x) (xD x) y)) (w : Int) (hw : max 0 (ev_yA N A y - ev_yL N A y) = w) : z = w := by rw [hz, h.l _ (by omega), h.a hy, hw]
end YEs
-- who may sell
def ev_sp (b : Nat → Nat → Int) (v : Nat) (d u : Int) : Bool := decide (u ≤ bH b v d) && (List.range (bN b)).all (fun k => !(bL b v k) || (decide (b 2 k < d) || decide (u ≤ bH b v (b 2 k))))
theorem ev_sp_ok {x b : Nat → Nat → Int} {v : Nat} {d u : Int} (hX : XI x b) (hv : v < 3) (h : ev_sp b v d u = true) : ∀ e, d ≤ e → u ≤ bH b v e := by
  simp only [ev_sp, Bool.and_eq_true, decide_eq_true_eq, List.all_eq_true, List.mem_range, Bool.or_eq_true, Bool.not_eq_true'] at h
  obtain ⟨h1, h2⟩ := h
  obtain ⟨-, hR, -⟩ := hX.2.2.1 v hv
  intro e he
  rcases Int.lt_or_le (bH b v e) u with q | q
  · rcases spare_day hR ⟨e, he, q⟩ with g | ⟨k, k1, k2, k3, k4⟩
    · omega
    · rcases h2 k k1 with g | g | g
      · rw [k2] at g; cases g
      · omega
      · omega
  · exact q
end EVA
