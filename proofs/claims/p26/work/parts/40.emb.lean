-- a world inside another
def Emb (n : Nat) (cel : (Nat → Nat) → (Nat → Int) → Nat → va_E) (ad : Nat → Nat) (n' : Nat) (cel' : (Nat → Nat) → (Nat → Int) → Nat → va_E) (ad' : Nat → Nat) (em : Nat → Nat) : Prop :=
  (∀ k, k < n → em k < n' ∧ ad k = ad' (em k)) ∧ (∀ i j, i < n → j < n → em i = em j → i = j) ∧ ∀ k, k < n → ∀ f, cel ad f k = cel' ad' f (em k)
def sub (em : Nat → Nat) (st : Nat → Nat → Int) : Nat → Nat → Int := fun k => st (em k)
/-- st with st1 in the place of the world inside -/
def up (n : Nat) (em : Nat → Nat) (st1 st : Nat → Nat → Int) : Nat → Nat → Int := fun j => match (List.range n).find? (fun k => decide (em k = j)) with
  | some k => st1 k
  | none => st j
section EM
variable {n n' : Nat} {cel cel' : (Nat → Nat) → (Nat → Int) → Nat → va_E} {ad ad' : Nat → Nat} {em : Nat → Nat}
theorem up_in (h : ∀ i j, i < n → j < n → em i = em j → i = j) {k : Nat} (hk : k < n) (st1 st : Nat → Nat → Int) : up n em st1 st (em k) = st1 k := by
  unfold up
  cases hf : (List.range n).find? (fun i => decide (em i = em k)) with
  | none =>
    have h1 := List.find?_eq_none.mp hf k (List.mem_range.mpr hk)
    simp at h1
  | some i =>
    have h1 := List.find?_some hf
    have h2 := List.mem_range.mp (List.mem_of_find?_eq_some hf)
    rw [h i k h2 hk (by simpa using h1)]
theorem up_out {j : Nat} (h : ∀ k, k < n → em k ≠ j) (st1 st : Nat → Nat → Int) : up n em st1 st j = st j := by
  unfold up
  have h1 : (List.range n).find? (fun i => decide (em i = j)) = none := by
    rw [List.find?_eq_none]
    intro k hk
    simpa using h k (List.mem_range.mp hk)
  rw [h1]
theorem sub_up (h : ∀ i j, i < n → j < n → em i = em j → i = j) (st1 st : Nat → Nat → Int) {k : Nat} (hk : k < n) : sub em (up n em st1 st) k = st1 k := up_in h hk st1 st
theorem up_self (h : ∀ i j, i < n → j < n → em i = em j → i = j) (st : Nat → Nat → Int) : up n em (sub em st) st = st := by
  funext j
  by_cases hx : ∃ k, k < n ∧ em k = j
  · obtain ⟨k, hk, rfl⟩ := hx
    rw [up_in h hk]; rfl
  · exact up_out (fun k hk e => hx ⟨k, hk, e⟩) _ _
variable {D : va_G} {cl : List vw_C} {A : Nat → Prop} {H0 H : Heap} {st : Nat → Nat → Int} {locs : List Loc}
theorem GW.emb (hE : Emb n cel ad n' cel' ad' em) (hW : GW D cl n' cel' ad' A H0 st H locs) : GW D cl n cel ad A H0 (sub em st) H locs := by
  have key : ∀ (k : Nat) (q : Nat × va_E), (wl n cel ad (sub em st))[k]? = some q → k < n ∧ (wl n' cel' ad' st)[em k]? = some q := by
    intro k q hk
    obtain ⟨h1, h2⟩ := wl_of hk
    obtain ⟨h3, h4⟩ := hE.1 k h1
    refine ⟨h1, ?_⟩
    rw [wl_get h3, h2, h4, hE.2.2 k h1]; rfl
  refine ⟨fun k q hk => hW.1 (em k) q (key k q hk).2, ⟨fun i j x y hi hj hxy => ?_, fun k q hk => hW.2.1.2 (em k) q (key k q hk).2⟩, hW.2.2⟩
  obtain ⟨h1, h2⟩ := key i x hi
  obtain ⟨h3, h4⟩ := key j y hj
  exact hE.2.1 i j h1 h3 (hW.2.1.1 _ _ x y h2 h4 hxy)
theorem GW.behindE {st1 : Nat → Nat → Int} {t : State} {H1 : Heap} {locs1 : List Loc} (hE : Emb n cel ad n' cel' ad' em) (hW : GW D cl n' cel' ad' A H0 st H locs) (ht : t.heap = H1) (hB : mB D cl n cel ad st1 t) (hk : ∀ q : Nat, q < H.size → ¬ wA n ad q → H1[q]? = H[q]?) (hS : va_S A H0 H1 locs1) : GW D cl n' cel' ad' A H0 (up n em st1 st) H1 locs1 := by
  refine ⟨fun k q hq => ?_, ?_, hS⟩
  · obtain ⟨h1, rfl⟩ := wl_of hq
    by_cases hx : ∃ i, i < n ∧ em i = k
    · obtain ⟨i, hi, rfl⟩ := hx
      have h2 : va_P D cl (wl n cel ad st1) H1 := by rw [← ht]; exact hB
      have h3 := h2 i (ad i, cel ad (st1 i) i) (wl_get hi)
      rw [up_in hE.2.1 hi, ← hE.2.2 i hi, ← (hE.1 i hi).2]
      exact h3
    · have e : up n em st1 st k = st k := up_out (fun i hi h => hx ⟨i, hi, h⟩) _ _
      rw [e]
      have h2 := hW.1 k (ad' k, cel' ad' (st k) k) (wl_get h1)
      refine h2.kept (hk _ h2.lt ?_)
      rintro ⟨i, hi, h3⟩
      refine hx ⟨i, hi, ?_⟩
      have h4 := hE.1 i hi
      exact (hW.2.1.1 k (em i) _ _ (wl_get h1) (wl_get h4.1) (by show ad' k = ad' (em i); rw [← h4.2]; exact h3)).symm
  · refine ⟨fun i j x y hi hj hxy => ?_, fun k q hk => ?_⟩
    · obtain ⟨h1, rfl⟩ := wl_of hi
      obtain ⟨h2, rfl⟩ := wl_of hj
      exact hW.2.1.1 i j _ _ (wl_get h1) (wl_get h2) hxy
    · obtain ⟨h1, rfl⟩ := wl_of hk
      exact hW.2.1.2 k (ad' k, cel' ad' (st k) k) (wl_get h1)
end EM
section EMC
variable {p : Program} {l : Launch} {e : Env} {R : Room} {s : State} {m : MethodId} {args : Array Value} {below : List Frame} {meth : Method} {c : Code} {H : Heap} {locs : List Loc} {cells slots : Nat} {Q : State → Prop}
variable {pc : Nat} {ls : Array Slot} {rest : List Value} {D : va_G} {cl : List vw_C} {A : Nat → Prop} {H0 : Heap} {n n' : Nat} {cel cel' : (Nat → Nat) → (Nat → Int) → Nat → va_E} {ad ad' : Nat → Nat} {em : Nat → Nat} {st : Nat → Nat → Int}
theorem mk_goIE {st0 : List Value} {a : Array Value} {post : Int → (Nat → Nat → Int) → Prop} (hE : Emb n cel ad n' cel' ad' em) (hr : va_Run p l e R s m args below meth c H locs cells slots 0 0 (F0 m pc ls st0) rest (va_Qi (fun (r : Int32) (u : Nat → Nat → Int) => ∃ z : Int, r = iI z ∧ post z u) (mB D cl n cel ad) (wA n ad) a) (wA n ad)) (hW : GW D cl n' cel' ad' A H0 st H locs)
    (kk : ∀ (z : Int) (st1 : Nat → Nat → Int), post z st1 → ∀ (H1 : Heap) (locs1 : List Loc), GW D cl n' cel' ad' A H0 (up n em st1 st) H1 locs1 → W p l e R s m args below meth c H1 locs1 cells slots Q (F0 m (pc + 3) ls (.int (iI z) :: rest))) : W p l e R s m args below meth c H locs cells slots Q (F0 m pc ls st0) := by
  refine va_calli hr hW.2.2 (fun q _ h => (hW.emb hE).all q h) (hW.emb hE).all (fun r u t H1 locs1 ht hvm hp hB hz hk hS => ?_)
  obtain ⟨z, rfl, hp⟩ := hp
  exact kk z u hp H1 locs1 (hW.behindE hE ht hB hk hS)
theorem mk_goVE {st0 : List Value} {a : Array Value} {post : (Nat → Nat → Int) → Prop} (hE : Emb n cel ad n' cel' ad' em) (hr : va_Run p l e R s m args below meth c H locs cells slots 0 0 (F0 m pc ls st0) rest (va_Qv post (mB D cl n cel ad) (wA n ad) a) (wA n ad)) (hW : GW D cl n' cel' ad' A H0 st H locs)
    (kk : ∀ (st1 : Nat → Nat → Int), post st1 → ∀ (H1 : Heap) (locs1 : List Loc), GW D cl n' cel' ad' A H0 (up n em st1 st) H1 locs1 → W p l e R s m args below meth c H1 locs1 cells slots Q (F0 m (pc + 3) ls rest)) : W p l e R s m args below meth c H locs cells slots Q (F0 m pc ls st0) := by
  refine va_callv hr hW.2.2 (fun q _ h => (hW.emb hE).all q h) (hW.emb hE).all (fun u t H1 locs1 ht hvm hp hB hz hk hS => ?_)
  exact kk u hp H1 locs1 (hW.behindE hE ht hB hk hS)
/-- an answer that is a cell of the world -/
def mBr (D : va_G) (cl : List vw_C) (n : Nat) (cel : (Nat → Nat) → (Nat → Int) → Nat → va_E) (ad : Nat → Nat) (r : Nat) : (Nat → Nat → Int) → Nat → State → Prop := fun st a t => a = ad r ∧ va_P D cl (wl n cel ad st) t.heap
def MR (l : Launch) (y : MethodName) (ws : List Cond) (rm : Room) (D : va_G) (cl : List vw_C) (tys : List (ClassId × FieldType)) (n : Nat) (cel : (Nat → Nat) → (Nat → Int) → Nat → va_E) (ad : Nat → Nat) (st : Nat → Nat → Int) (av : List Value) (r : Nat) : Prop :=
  Met l y ws rm (va_Pc av (mP D cl tys n cel ad st)) (va_Qr (fun u : Nat → Nat → Int => u = st) (mBr D cl n cel ad r) (wA n ad)) 0 0 (wA n ad)
theorem mk_goR {st0 : List Value} {a : Array Value} {r : Nat} {st9 : Nat → Nat → Int} (hr : va_Run p l e R s m args below meth c H locs cells slots 0 0 (F0 m pc ls st0) rest (va_Qr (fun u : Nat → Nat → Int => u = st) (mBr D cl n cel ad r) (wA n ad) a) (wA n ad)) (hW : GW D cl n cel ad A H0 st H locs)
    (kk : ∀ (H1 : Heap) (locs1 : List Loc), GW D cl n cel ad A H0 st H1 locs1 → W p l e R s m args below meth c H1 locs1 cells slots Q (F0 m (pc + 3) ls (.ref (ad r) :: rest))) : W p l e R s m args below meth c H locs cells slots Q (F0 m pc ls st0) := by
  refine va_callr hr hW.2.2 (fun q _ h => hW.all q h) hW.all (fun u ra t H1 locs1 ht hvm hp hB hz hk hS => ?_)
  obtain ⟨rfl, hB⟩ := hB
  rw [hp] at hB
  exact kk H1 locs1 (hW.behind ht hB hS)
theorem mk_retR {cc : ByteArray} {r : Nat} {T : String} (hexec : p.tables.exec = Jvm.exec) (hb : c.code = cc) (hr : meth.sig.returnType = some (.object T)) (hlocks : meth.locks = false) (hW : GW D cl n cel ad (wA n ad) s.heap st H locs) {st9 : Nat → Nat → Int} (hp : st = st9) (hdg : decode cc pc = .ok (.areturn, 1)) :
    W p l e R s m args below meth c H locs 0 0 (MQ below (va_Qr (fun u : Nat → Nat → Int => u = st9) (mBr D cl n cel ad r) (wA n ad)) args s 0 0 (wA n ad)) (F0 m pc ls [.ref (ad r)]) :=
  W.aret hexec hb hr (Or.inl ⟨T, rfl⟩) (Or.inr ⟨ad r, rfl⟩) (fun t ht hWm => ⟨⟨st, ad r, rfl, hp, rfl, by rw [ht]; exact hW.1⟩, hW.2.2.F ht⟩) hW.2.2.2.2 hdg hlocks
end EMC

theorem EmbL0 (cg : Nat → ClassId) (ad : Nat → Nat) : Emb 28 (celL cg) (fun j => ad (embL 0 j)) 73 (celX cg) ad (embL 0) := ⟨fun _ hk => ⟨embL_lt (by omega) hk, rfl⟩, fun _ _ hi hj h => embL_inj hi hj h, fun k hk f => embL_cel0 cg ad f k hk⟩
theorem EmbL1 (cg : Nat → ClassId) (ad : Nat → Nat) : Emb 28 (celL cg) (fun j => ad (embL 1 j)) 73 (celX cg) ad (embL 1) := ⟨fun _ hk => ⟨embL_lt (by omega) hk, rfl⟩, fun _ _ hi hj h => embL_inj hi hj h, fun k hk f => embL_cel1 cg ad f k hk⟩
theorem EmbL2 (cg : Nat → ClassId) (ad : Nat → Nat) : Emb 28 (celL cg) (fun j => ad (embL 2 j)) 73 (celX cg) ad (embL 2) := ⟨fun _ hk => ⟨embL_lt (by omega) hk, rfl⟩, fun _ _ hi hj h => embL_inj hi hj h, fun k hk f => embL_cel2 cg ad f k hk⟩
