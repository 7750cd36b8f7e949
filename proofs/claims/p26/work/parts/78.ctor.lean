-- worlds that grow: the constructors
def CW (D : va_G) (ws : va_W) (A : Nat → Prop) (H0 H : Heap) (locs : List Loc) : Prop := va_P D vwCl ws H ∧ va_D A ws ∧ va_S A H0 H locs
def kP (D : va_G) (cg : Nat → ClassId) (sz h0 ci : Nat) (fs : List Value) : State → Prop := fun U => U.heap.size = sz ∧ va_P D vwCl [(h0, .inr (ci, fs))] U.heap ∧ va_K D vwCl (TY cg) U ∧ va_D (fun _ => True) [(h0, .inr (ci, fs))] ∧ NW U ∧ va_AO "GainsReckoner$Ledger" U
theorem kP_blind {D : va_G} {cg : Nat → ClassId} {sz h0 ci : Nat} {fs : List Value} {av : List Value} : FrameBlind (va_Pc av (kP D cg sz h0 ci fs)) := by
  intro a U g mk h
  obtain ⟨h1, h2, h3, h4, h5, h6, h7⟩ := h
  exact ⟨h1, h2, h3, va_K.moved (u := U) (U := U.calling g mk a) (Vm.Alike.refl U.vm) h4, h5, NW.same (u := U) (U := U.calling g mk a) rfl h6, h7⟩
/-- a constructor: the blank object at h0 becomes the world of n cells, h0 the first -/
def CK (l : Launch) (y : MethodName) (ws : List Cond) (rm : Room) (D : va_G) (cg : Nat → ClassId) (sz h0 ci : Nat) (fs : List Value) (n : Nat) (cel : (Nat → Nat) → (Nat → Int) → Nat → va_E) (st : Nat → Nat → Int) (av : List Value) (mc ms : Nat) : Prop :=
  Met l y ws rm (va_Pc (.ref h0 :: av) (kP D cg sz h0 ci fs)) (va_Qv (fun ad : Nat → Nat => ad 0 = h0) (fun ad t => va_P D vwCl (wl n cel ad st) t.heap ∧ va_D (va_A [(h0, .inr (ci, fs))] sz) (wl n cel ad st)) (va_A [(h0, .inr (ci, fs))] sz)) mc ms (va_A [(h0, .inr (ci, fs))] sz)
theorem ck_nth {a : va_W} {x : Nat × va_E} : (a ++ [x])[a.length]? = some x := by simp
theorem ck_keep {a b : va_W} : (List.range a.length).map (fun i => (a ++ b)[i]?) = a.map some := by
  apply List.ext_getElem?
  intro i
  by_cases h : i < a.length
  · have e := List.getElem?_append_left (l₂ := b) h
    simp [h, e]
  · simp [h]
theorem va_nd_lt {is : List Nat} {n : Nat} (h : va_nd is = true) (hn : ∀ i ∈ is, i < n) : va_nd (is ++ [n]) = true := by
  induction is with
  | nil => rfl
  | cons i is ih =>
    simp only [va_nd, List.cons_append, Bool.and_eq_true] at h ⊢
    refine ⟨?_, ih h.2 (fun j hj => hn j (List.mem_cons_of_mem _ hj))⟩
    have h1 := hn i List.mem_cons_self
    have h2 := h.1
    simp at h2 ⊢
    exact ⟨h2, by omega⟩
theorem va_nd_range (n : Nat) : va_nd (List.range n) = true := by
  induction n with
  | zero => rfl
  | succ n ih => rw [List.range_succ]; exact va_nd_lt ih (fun i hi => List.mem_range.mp hi)
section CKS
variable {p : Program} {l : Launch} {e : Env} {R : Room} {s : State} {m : MethodId} {args : Array Value} {below : List Frame} {meth : Method} {c : Code} {H : Heap} {locs : List Loc} {cells slots : Nat} {Q : State → Prop}
variable {cc : ByteArray} {pc : Nat} {ls : Array Slot} {rest : List Value} {D : va_G} {A : Nat → Prop} {H0 : Heap} {cg : Nat → ClassId} {ws : va_W}
theorem ck_open {y : MethodName} {wsn ws' : List Cond} {rm : Room} {maxL sz h0 ci n mc ms : Nat} {fs : List Value} {av : List Value} {cel : (Nat → Nat) → (Nat → Int) → Nat → va_E} {st : Nat → Nat → Int} (hy : plainName y.cls = true) (hw : wsn = Cond.code y cc maxL none :: ws') (hlen : (lg_sl (.ref h0 :: av)).length ≤ maxL) (hyi : y.name = "<init>")
    (body : ∀ (p : Program) (e : Env) (s : State) (m : MethodId) (args : Array Value) (below : List Frame) (meth : Method) (c : Code) (A : Nat → Prop), p.tables.exec = Jvm.exec → c.code = cc → c.maxLocals = maxL → meth.sig.returnType = none → s.vm.findClass y.cls = some m.cls → (∀ w ∈ wsn, w.before args s = true) → meth.locks = false → meth.name = "<init>" → va_K D vwCl (TY cg) s → NW s → va_AO "GainsReckoner$Ledger" s → (∀ q, s.heap.size ≤ q → A q) → ∀ ls : Array Slot, lv_has ls maxL (lv_args 0 (.ref h0 :: av)) → CW D [(h0, .inr (ci, fs))] A s.heap s.heap [] →
      W p l e (headSpec wsn rm).room s m args below meth c s.heap [] 0 0 (MQ below (va_Qv (fun ad : Nat → Nat => ad 0 = h0) (fun ad t => va_P D vwCl (wl n cel ad st) t.heap ∧ va_D A (wl n cel ad st)) A) args s mc ms A) (F0 m 0 ls [])) : CK l y wsn rm D cg sz h0 ci fs n cel st av mc ms := by
  refine Met.ofW (cc := cc) (maxL := maxL) (ret := none) hy hw ?_
  intro p e s m args below meth c s₁ B hml hv
  obtain ⟨rfl, hsz, hP, hK, hD, hN, hO⟩ := hv
  subst hsz
  have hl := lv_entry (.ref h0 :: av) (n := maxL) hlen
  rw [lg_entry_eq]
  exact body p e s m _ below meth c _ B.exec B.bytes hml B.returns (findClass_of_methodNamed B.named) (atoms_spec B.pre) B.notSynchronized ((name_of_methodNamed B.named B.method).1.trans hyi) hK hN hO (fun q h => Or.inr h) _ hl ⟨hP, hD.self, va_S.rf⟩
theorem ck_ret {h0 n : Nat} {cel : (Nat → Nat) → (Nat → Int) → Nat → va_E} {st : Nat → Nat → Int} (ad : Nat → Nat) (hexec : p.tables.exec = Jvm.exec) (hb : c.code = cc) (hr : meth.sig.returnType = none) (hlocks : meth.locks = false) (hC : CW D ws A s.heap H locs) (h1 : ad 0 = h0) (hws : ws = wl n cel ad st) (hdg : decode cc pc = .ok (.return_, 1)) :
    W p l e R s m args below meth c H locs cells slots (MQ below (va_Qv (fun ad : Nat → Nat => ad 0 = h0) (fun ad t => va_P D vwCl (wl n cel ad st) t.heap ∧ va_D A (wl n cel ad st)) A) args s cells slots A) (F0 m pc ls []) := by
  subst hws
  exact W.vret hexec hb hr (fun t ht hWm => ⟨⟨ad, rfl, h1, by rw [ht]; exact hC.1, hC.2.1⟩, hC.2.2.F ht⟩) hC.2.2.2.2 hdg hlocks
theorem ck_obj (hexec : p.tables.exec = Jvm.exec) (hb : c.code = cc) (hml : c.maxLocals = ls.size) {own : String} (hown : s.vm.findClass own = some m.cls) {idx : Nat} (h1 : (Cond.methodLink own idx Lib.objectInit).before args s = true) (h2 : (Cond.instanceMethod Lib.objectInit).before args s = true) (h3 : (Cond.code Lib.objectInit ⟨#[0xb1]⟩ 1 none).before args s = true) {a : Nat} (hdg : decode cc pc = .ok (.invokespecial idx, 3)) (hR : 1 ≤ R.frames) (hL : (rest.map fun v => v.category).sum + 12 ≤ R.locals)
    (kk : W p l e R s m args below meth c H locs cells slots Q (F0 m (pc + 3) ls rest)) : W p l e R s m args below meth c H locs cells slots Q (F0 m pc ls (.ref a :: rest)) :=
  W.objInit (g := F0 m pc ls (.ref a :: rest)) hexec hb hown h1 h2 h3 rfl hml.symm rfl hdg hR (by show 2 * 0 + _ + 12 ≤ _; omega) kk
theorem ck_newI (hexec : p.tables.exec = Jvm.exec) (hb : c.code = cc) (harr : (Cond.arrayClass .int).before args s = true) (hK : va_K D vwCl (TY cg) s) (hC : CW D ws A H0 H locs) (hA : ∀ q, H0.size ≤ q → A q) {n : Int32} {N : Nat} (hn : ¬ n < 0) (hN : n.toNatClampNeg = N) (hbytes : N * componentBytes .int ≤ 536870912) (hcells : cells + 1 ≤ R.cells) (hslots : slots + N ≤ R.slots) (hdg : decode cc pc = .ok (.newarray .int, 2))
    (kk : ∀ (q : Nat) (H1 : Heap), CW D (ws ++ [(q, aI cg N (fun _ => 0))]) A H0 H1 locs → W p l e R s m args below meth c H1 locs (cells + 1) (slots + N) Q (F0 m (pc + 2) ls (.ref q :: rest))) : W p l e R s m args below meth c H locs cells slots Q (F0 m pc ls (.int n :: rest)) := by
  refine va_newa (atype := .int) (ty := .int) (a0 := (N, .inl (fun _ => iI 0))) hexec hb harr rfl hK hC.1 hC.2.1 hC.2.2 hA (fun cA => rfl) hn hN hbytes hcells hslots hdg (fun q cA H1 hK1 hP hD hS => ?_)
  have h1 := (hK1.2 4 (cA, .int) rfl).2
  have h2 := (hK.2 0 (cg 0, .int) rfl).2
  have h3 : cA = cg 0 := Option.some.inj (h1.symm.trans h2)
  subst h3
  exact kk q H1 ⟨hP, hD, hS⟩
theorem ck_newZ (hexec : p.tables.exec = Jvm.exec) (hb : c.code = cc) (harr : (Cond.arrayClass .boolean).before args s = true) (hK : va_K D vwCl (TY cg) s) (hC : CW D ws A H0 H locs) (hA : ∀ q, H0.size ≤ q → A q) {n : Int32} {N : Nat} (hn : ¬ n < 0) (hN : n.toNatClampNeg = N) (hbytes : N * componentBytes .boolean ≤ 536870912) (hcells : cells + 1 ≤ R.cells) (hslots : slots + N ≤ R.slots) (hdg : decode cc pc = .ok (.newarray .boolean, 2))
    (kk : ∀ (q : Nat) (H1 : Heap), CW D (ws ++ [(q, aZ cg N (fun _ => 0))]) A H0 H1 locs → W p l e R s m args below meth c H1 locs (cells + 1) (slots + N) Q (F0 m (pc + 2) ls (.ref q :: rest))) : W p l e R s m args below meth c H locs cells slots Q (F0 m pc ls (.int n :: rest)) := by
  refine va_newa (atype := .boolean) (ty := .boolean) (a0 := (N, .inl (fun _ => iI 0))) hexec hb harr rfl hK hC.1 hC.2.1 hC.2.2 hA (fun cA => rfl) hn hN hbytes hcells hslots hdg (fun q cA H1 hK1 hP hD hS => ?_)
  have h1 := (hK1.2 4 (cA, .boolean) rfl).2
  have h2 := (hK.2 1 (cg 1, .boolean) rfl).2
  have h3 : cA = cg 1 := Option.some.inj (h1.symm.trans h2)
  subst h3
  exact kk q H1 ⟨hP, hD, hS⟩
theorem ck_newq (hexec : p.tables.exec = Jvm.exec) (hb : c.code = cc) {own : String} {index : Nat} (hown : s.vm.findClass own = some m.cls) (hclink : (Cond.classLink own index "GainsReckoner$Ledger").before args s = true) (hover : va_AO "GainsReckoner$Ledger" s) (hK : va_K D vwCl (TY cg) s) (hC : CW D ws A H0 H locs) (hA : ∀ q, H0.size ≤ q → A q) {n : Int32} {N : Nat} (hn : ¬ n < 0) (hN : n.toNatClampNeg = N) (hbytes : N * 4 ≤ 536870912) (hcells : cells + 1 ≤ R.cells) (hslots : slots + N ≤ R.slots) (hdg : decode cc pc = .ok (.anewarray index, 3))
    (kk : ∀ (q : Nat) (H1 : Heap), CW D (ws ++ [(q, .inl (cg 3, N, .inr (.inr (.inr (.inr (fun _ => none))))))]) A H0 H1 locs → W p l e R s m args below meth c H1 locs (cells + 1) (slots + N) Q (F0 m (pc + 3) ls (.ref q :: rest))) : W p l e R s m args below meth c H locs cells slots Q (F0 m pc ls (.int n :: rest)) := by
  refine va_newq hexec hb hown hclink hover hK hC.1 hC.2.1 hC.2.2 hA hn hN hbytes hcells hslots hdg (fun q cA H1 hK1 hP hD hS => ?_)
  obtain ⟨k1, c1, -, -, -, h1⟩ := (hK1.2 4 (cA, .object "GainsReckoner$Ledger") rfl).2
  obtain ⟨k2, c2, -, -, -, h2⟩ := (hK.2 3 (cg 3, .object "GainsReckoner$Ledger") rfl).2
  have h3 : cA = cg 3 := Option.some.inj (h1.symm.trans h2)
  subst h3
  exact kk q H1 ⟨hP, hD, hS⟩
theorem ck_new (hexec : p.tables.exec = Jvm.exec) (hb : c.code = cc) {own C : String} {T : u_T} {N ci index : Nat} {Ts : List Cond} (hts : ∀ w ∈ Ts, w.before args s = true) (hin : ∀ w ∈ u_ws C T N, w ∈ Ts) (ty : Nat → FieldType) (hty : ∀ k, k < N → parseFieldDescriptor (T k).2.2.1 = some (ty k)) (hown : s.vm.findClass own = some m.cls) (hcl : (Cond.classLink own index C).before args s = true) (hinst : (Cond.instantiable C N).before args s = true) (hini : (Cond.initialized C).before args s = true)
    {tys : List (ClassId × FieldType)} (hK : va_K D vwCl tys s) (hC : CW D ws A H0 H locs) (hA : ∀ q, H0.size ≤ q → A q) (hc : vwCl[ci]? = some (C, T, N)) {fs : List Value} (hfs : ∀ j, j < N → defaultValue (ty j) = vp_V fs j) (hcells : cells + 1 ≤ R.cells) (hslots : slots + N ≤ R.slots) (hdg : decode cc pc = .ok (.new index, 3))
    (kk : ∀ (q : Nat) (H1 : Heap), CW D (ws ++ [(q, .inr (ci, fs))]) A H0 H1 locs → W p l e R s m args below meth c H1 locs (cells + 1) (slots + N) Q (F0 m (pc + 3) ls (.ref q :: rest))) : W p l e R s m args below meth c H locs cells slots Q (F0 m pc ls rest) :=
  va_new hexec hb hts hin ty hty hown hcl hinst hini hK hC.1 hC.2.1 hC.2.2 hA hc hfs hcells hslots hdg (fun q H1 hP hD hS => kk q H1 ⟨hP, hD, hS⟩)
theorem ck_putF (hexec : p.tables.exec = Jvm.exec) (hb : c.code = cc) {own C : String} {T : u_T} {N ci index a : Nat} {Ts : List Cond} (hts : ∀ w ∈ Ts, w.before args s = true) (hin : ∀ w ∈ u_ws C T N, w ∈ Ts) (ty0 : Nat → FieldType) (hty : ∀ k, k < N → parseFieldDescriptor (T k).2.2.1 = some (ty0 k)) (hnm : ∀ a, a < N → ∀ b, b < N → a ≠ b → (T a).2.1 ≠ (T b).2.1) (hown : s.vm.findClass own = some m.cls) {tys : List (ClassId × FieldType)} (hK : va_K D vwCl tys s) {fs : List Value} (hC : CW D ((a, .inr (ci, fs)) :: ws) A H0 H locs) (hc : vwCl[ci]? = some (C, T, N)) (k : Nat) (hk : k < N) (hlink : (Cond.fieldLink own index C (T k).2.1 (T k).2.2.1).before args s = true) (hT : (T k).1 = C) (hfin : (T k).2.2.2 = true) (hin2 : meth.name = "<init>") (hdecl : (T k).1 = own) {v : Value} (hn : narrow (ty0 k) v = v) (hfit : fits (ty0 k) v = true) (hl : k < fs.length) (hdg : decode cc pc = .ok (.putfield index, 3))
    (kk : ∀ (H1 : Heap) (locs1 : List Loc), CW D ((a, .inr (ci, fs.set k v)) :: ws) A H0 H1 locs1 → W p l e R s m args below meth c H1 locs1 cells slots Q (F0 m (pc + 3) ls rest)) : W p l e R s m args below meth c H locs cells slots Q (F0 m pc ls (v :: .ref a :: rest)) :=
  va_putF hexec hb hts hin ty0 hty hnm hown hK hC.1 hC.2.1 hC.2.2 0 rfl hc k hk hlink (fun _ h9 => by rw [hT] at h9; exact h9) hfin hin2 hdecl (hty k hk) hn hfit hl hdg (fun H1 locs1 hP hD hS => kk H1 locs1 ⟨hP, hD, hS⟩)
theorem ck_put (hexec : p.tables.exec = Jvm.exec) (hb : c.code = cc) {own C : String} {T : u_T} {N ci index a : Nat} {Ts : List Cond} (hts : ∀ w ∈ Ts, w.before args s = true) (hin : ∀ w ∈ u_ws C T N, w ∈ Ts) (ty0 : Nat → FieldType) (hty : ∀ k, k < N → parseFieldDescriptor (T k).2.2.1 = some (ty0 k)) (hnm : ∀ a, a < N → ∀ b, b < N → a ≠ b → (T a).2.1 ≠ (T b).2.1) (hown : s.vm.findClass own = some m.cls) {tys : List (ClassId × FieldType)} (hK : va_K D vwCl tys s) {fs : List Value} (hC : CW D ((a, .inr (ci, fs)) :: ws) A H0 H locs) (hc : vwCl[ci]? = some (C, T, N)) (k : Nat) (hk : k < N) (hlink : (Cond.fieldLink own index C (T k).2.1 (T k).2.2.1).before args s = true) (hT : (T k).1 = C) (hfin : (T k).2.2.2 = false) {v : Value} (hn : narrow (ty0 k) v = v) (hfit : fits (ty0 k) v = true) (hl : k < fs.length) (hdg : decode cc pc = .ok (.putfield index, 3))
    (kk : ∀ (H1 : Heap) (locs1 : List Loc), CW D ((a, .inr (ci, fs.set k v)) :: ws) A H0 H1 locs1 → W p l e R s m args below meth c H1 locs1 cells slots Q (F0 m (pc + 3) ls rest)) : W p l e R s m args below meth c H locs cells slots Q (F0 m pc ls (v :: .ref a :: rest)) :=
  va_put hexec hb hts hin ty0 hty hnm hown hK hC.1 hC.2.1 hC.2.2 0 rfl hc k hk hlink (fun _ h9 => by rw [hT] at h9; exact h9) hfin (hty k hk) hn hfit hl hdg (fun H1 locs1 hP hD hS => kk H1 locs1 ⟨hP, hD, hS⟩)
/-- what a constructor's start asks -/
theorem ck_pre {q0 ci : Nat} {fs av : List Value} (hK : va_K D vwCl (TY cg) s) (hN : NW s) (hO : va_AO "GainsReckoner$Ledger" s) (hC : CW D (ws ++ [(q0, .inr (ci, fs))]) A H0 H locs) : PreS s H (va_Pc (.ref q0 :: av) (kP D cg H.size q0 ci fs)) (.ref q0 :: av) := by
  refine ⟨kP_blind, fun U hU hW => ⟨rfl, by rw [hU], ?_, va_K.moved hW.alike hK, ?_, hN.warm hW, va_AO.moved hW.alike hO⟩⟩
  · rw [hU]
    intro k q hk
    have h1 : k < 1 := (List.getElem?_eq_some_iff.mp hk).1
    rw [show k = 0 by omega] at hk
    cases hk
    exact hC.1 ws.length _ ck_nth
  · refine ⟨fun i j x y hx hy _ => ?_, fun _ _ _ => trivial⟩
    have h1 : i < 1 := (List.getElem?_eq_some_iff.mp hx).1
    have h2 : j < 1 := (List.getElem?_eq_some_iff.mp hy).1
    omega
/-- behind a constructor's call -/
theorem ck_go {q0 ci n mc ms : Nat} {fs : List Value} {cel : (Nat → Nat) → (Nat → Int) → Nat → va_E} {st : Nat → Nat → Int} {st0 : List Value} {a : Array Value} (hC : CW D (ws ++ [(q0, .inr (ci, fs))]) A H0 H locs) (hA : ∀ q, H0.size ≤ q → A q)
    (hr : va_Run p l e R s m args below meth c H locs cells slots mc ms (F0 m pc ls st0) rest (va_Qv (fun ad : Nat → Nat => ad 0 = q0) (fun ad t => va_P D vwCl (wl n cel ad st) t.heap ∧ va_D (va_A [(q0, .inr (ci, fs))] H.size) (wl n cel ad st)) (va_A [(q0, .inr (ci, fs))] H.size) a) (va_A [(q0, .inr (ci, fs))] H.size))
    (kk : ∀ (ad : Nat → Nat) (H1 : Heap) (locs1 : List Loc), ad 0 = q0 → CW D (ws ++ wl n cel ad st) A H0 H1 locs1 → W p l e R s m args below meth c H1 locs1 (cells + mc) (slots + ms) Q (F0 m (pc + 3) ls rest)) : W p l e R s m args below meth c H locs cells slots Q (F0 m pc ls st0) := by
  have hF := va_free (wc := [(q0, .inr (ci, fs))]) hC.2.1 hC.2.2 hA [ws.length] (by simp)
  refine va_callv hr hC.2.2 (fun q _ h => hF q h) hF (fun u t H1 locs1 ht hvm hw hB hz1 hk1 hS => ?_)
  obtain ⟨hP1, hD1⟩ := hB
  rw [ht] at hP1
  obtain ⟨hP, hD⟩ := va_join (wr := ws) (w1 := wl n cel u st) hC.1 hC.2.1 [ws.length] (List.range ws.length) (by simp) ck_keep (va_nd_range _) (fun i hi => by have := List.mem_range.mp hi; simp; omega) hk1 hF hP1 hD1
  exact kk u H1 locs1 hw ⟨hP, hD, hS⟩
end CKS
def z0 : Nat → Nat → Int := fun _ _ => 0

def celSp (cg : Nat → ClassId) (ad : Nat → Nat) (f : Nat → Int) (k : Nat) : va_E := match k with
  | 0 => .inr (4, [.ref (ad 1), .ref (ad 2), .int (iI (f 2))])
  | 1 => aI cg 4 f
  | _ => aI cg 4 f
set_option maxHeartbeats 4000000 in
set_option maxRecDepth 100000 in
theorem c_X4_init (l : Launch) (cg : Nat → ClassId) (D : va_G) (sz h0 : Nat) : CK l yX4_init wsX4_init ({ frames := 1, cells := 2, slots := 8, locals := 20 }) D cg sz h0 4 [.null, .null, .int (iI 0)] 3 (celSp cg) z0 [] 2 8 := by
  refine ck_open (cc := cX4_init) (maxL := 1) (by decide) rfl (Nat.le_of_ble_eq_true rfl) rfl ?_
  intro p e s m args below meth c A hx hb hml hr hown hts hlocks hin hK hN hO hA ls hl hC
  have hown : s.vm.findClass RX4 = some m.cls := hown
  have inX4 : ∀ w ∈ wsX40, w ∈ wsX4_init := by intro w h; exact List.mem_cons_of_mem _ (List.mem_append_right _ h)
  have hoi : Cond.code Lib.objectInit ⟨#[0xb1]⟩ 1 none ∈ wsX4_init := List.mem_cons_of_mem _ (List.mem_append_left _ (List.mem_of_getElem? (i := 2) rfl))
  have hl : lv_has ls 1 [(0, .ref h0)] := hl
  refine lv_aload_n hx hb dX4_init_0 rfl (lv_at hl 0 rfl) ?_
  refine ck_obj hx hb (hml.trans hl.1.symm) hown (hts (.methodLink RX4 3 objectInit) (by decide +kernel)) (hts (.instanceMethod objectInit) (by decide +kernel)) (hts _ hoi) dX4_init_1 (Nat.le_of_ble_eq_true rfl) (Nat.le_of_ble_eq_true rfl) ?_
  refine lv_aload_n hx hb dX4_init_4 rfl (lv_at hl 0 rfl) ?_
  refine lv_iconst (v := 4) hx hb dX4_init_5 rfl ?_
  refine ck_newI (N := 4) hx hb (hts (.arrayClass .int) (by decide +kernel)) hK hC hA (by decide) rfl (Nat.le_of_ble_eq_true rfl) (Nat.le_of_ble_eq_true rfl) (Nat.le_of_ble_eq_true rfl) dX4_init_6 (fun q1 H hC => ?_)
  have hC : CW D ((h0, .inr (4, [.null, .null, .int (iI 0)])) :: [(q1, aI cg 4 (fun _ => 0))]) A s.heap H _ := hC
  refine ck_putF (ci := 4) (C := RX4) (T := TX4) (N := 3) (v := .ref q1) hx hb hts inX4 tyX4 tyX4_ok nmX4 hown hK hC rfl 0 (by decide) (hts (.fieldLink RX4 9 "GainsReckoner$Splits" "day" "[I") (by decide +kernel)) rfl rfl hin rfl rfl rfl (Nat.le_of_ble_eq_true rfl) dX4_init_8 (fun H locs hC => ?_)
  have hC : CW D ((h0, .inr (4, [.ref q1, .null, .int (iI 0)])) :: [(q1, aI cg 4 (fun _ => 0))]) A s.heap H _ := hC
  refine lv_aload_n hx hb dX4_init_11 rfl (lv_at hl 0 rfl) ?_
  refine lv_iconst (v := 4) hx hb dX4_init_12 rfl ?_
  refine ck_newI (N := 4) hx hb (hts (.arrayClass .int) (by decide +kernel)) hK hC hA (by decide) rfl (Nat.le_of_ble_eq_true rfl) (Nat.le_of_ble_eq_true rfl) (Nat.le_of_ble_eq_true rfl) dX4_init_13 (fun q2 H hC => ?_)
  have hC : CW D ((h0, .inr (4, [.ref q1, .null, .int (iI 0)])) :: [(q1, aI cg 4 (fun _ => 0)), (q2, aI cg 4 (fun _ => 0))]) A s.heap H _ := hC
  refine ck_putF (ci := 4) (C := RX4) (T := TX4) (N := 3) (v := .ref q2) hx hb hts inX4 tyX4 tyX4_ok nmX4 hown hK hC rfl 1 (by decide) (hts (.fieldLink RX4 15 "GainsReckoner$Splits" "factor" "[I") (by decide +kernel)) rfl rfl hin rfl rfl rfl (Nat.le_of_ble_eq_true rfl) dX4_init_15 (fun H locs hC => ?_)
  have hC : CW D ((h0, .inr (4, [.ref q1, .ref q2, .int (iI 0)])) :: [(q1, aI cg 4 (fun _ => 0)), (q2, aI cg 4 (fun _ => 0))]) A s.heap H _ := hC
  refine lv_aload_n hx hb dX4_init_18 rfl (lv_at hl 0 rfl) ?_
  refine lv_iconst (v := 0) hx hb dX4_init_19 rfl ?_
  refine ck_put (ci := 4) (C := RX4) (T := TX4) (N := 3) (v := .int 0) hx hb hts inX4 tyX4 tyX4_ok nmX4 hown hK hC rfl 2 (by decide) (hts (.fieldLink RX4 18 "GainsReckoner$Splits" "size" "I") (by decide +kernel)) rfl rfl rfl rfl (Nat.le_of_ble_eq_true rfl) dX4_init_20 (fun H locs hC => ?_)
  have hC : CW D ((h0, .inr (4, [.ref q1, .ref q2, .int (iI 0)])) :: [(q1, aI cg 4 (fun _ => 0)), (q2, aI cg 4 (fun _ => 0))]) A s.heap H _ := hC
  exact ck_ret (fun k => match k with | 0 => h0 | 1 => q1 | _ => q2) hx hb hr hlocks hC rfl rfl dX4_init_23
def celSh (cg : Nat → ClassId) (ad : Nat → Nat) (f : Nat → Int) (k : Nat) : va_E := match k with
  | 0 => .inr (3, [.ref (ad 1), .ref (ad 2), .ref (ad 3), .ref (ad 4), .ref (ad 5), .ref (ad 6), .ref (ad 7), .ref (ad 8), .ref (ad 9), .int (iI (f 9))])
  | 1 => aI cg 60 f
  | 2 => aI cg 60 f
  | 3 => aI cg 60 f
  | 4 => aI cg 60 f
  | 5 => aI cg 60 f
  | 6 => aI cg 60 f
  | 7 => aI cg 60 f
  | 8 => aI cg 60 f
  | _ => aI cg 60 f
set_option maxHeartbeats 4000000 in
set_option maxRecDepth 100000 in
theorem c_X3_init (l : Launch) (cg : Nat → ClassId) (D : va_G) (sz h0 : Nat) : CK l yX3_init wsX3_init ({ frames := 1, cells := 9, slots := 540, locals := 20 }) D cg sz h0 3 [.null, .null, .null, .null, .null, .null, .null, .null, .null, .int (iI 0)] 10 (celSh cg) z0 [] 9 540 := by
  refine ck_open (cc := cX3_init) (maxL := 1) (by decide) rfl (Nat.le_of_ble_eq_true rfl) rfl ?_
  intro p e s m args below meth c A hx hb hml hr hown hts hlocks hin hK hN hO hA ls hl hC
  have hown : s.vm.findClass RX3 = some m.cls := hown
  have inX3 : ∀ w ∈ wsX30, w ∈ wsX3_init := by intro w h; exact List.mem_cons_of_mem _ (List.mem_append_right _ h)
  have hoi : Cond.code Lib.objectInit ⟨#[0xb1]⟩ 1 none ∈ wsX3_init := List.mem_cons_of_mem _ (List.mem_append_left _ (List.mem_of_getElem? (i := 2) rfl))
  have hl : lv_has ls 1 [(0, .ref h0)] := hl
  refine lv_aload_n hx hb dX3_init_0 rfl (lv_at hl 0 rfl) ?_
  refine ck_obj hx hb (hml.trans hl.1.symm) hown (hts (.methodLink RX3 3 objectInit) (by decide +kernel)) (hts (.instanceMethod objectInit) (by decide +kernel)) (hts _ hoi) dX3_init_1 (Nat.le_of_ble_eq_true rfl) (Nat.le_of_ble_eq_true rfl) ?_
  refine lv_aload_n hx hb dX3_init_4 rfl (lv_at hl 0 rfl) ?_
  refine lv_bipush (v := 60) hx hb dX3_init_5 (by decide +kernel) ?_
  refine ck_newI (N := 60) hx hb (hts (.arrayClass .int) (by decide +kernel)) hK hC hA (by decide) rfl (Nat.le_of_ble_eq_true rfl) (Nat.le_of_ble_eq_true rfl) (Nat.le_of_ble_eq_true rfl) dX3_init_7 (fun q1 H hC => ?_)
  have hC : CW D ((h0, .inr (3, [.null, .null, .null, .null, .null, .null, .null, .null, .null, .int (iI 0)])) :: [(q1, aI cg 60 (fun _ => 0))]) A s.heap H _ := hC
  refine ck_putF (ci := 3) (C := RX3) (T := TX3) (N := 10) (v := .ref q1) hx hb hts inX3 tyX3 tyX3_ok nmX3 hown hK hC rfl 0 (by decide) (hts (.fieldLink RX3 9 "GainsReckoner$Sheet" "day" "[I") (by decide +kernel)) rfl rfl hin rfl rfl rfl (Nat.le_of_ble_eq_true rfl) dX3_init_9 (fun H locs hC => ?_)
  have hC : CW D ((h0, .inr (3, [.ref q1, .null, .null, .null, .null, .null, .null, .null, .null, .int (iI 0)])) :: [(q1, aI cg 60 (fun _ => 0))]) A s.heap H _ := hC
  refine lv_aload_n hx hb dX3_init_12 rfl (lv_at hl 0 rfl) ?_
  refine lv_bipush (v := 60) hx hb dX3_init_13 (by decide +kernel) ?_
  refine ck_newI (N := 60) hx hb (hts (.arrayClass .int) (by decide +kernel)) hK hC hA (by decide) rfl (Nat.le_of_ble_eq_true rfl) (Nat.le_of_ble_eq_true rfl) (Nat.le_of_ble_eq_true rfl) dX3_init_15 (fun q2 H hC => ?_)
  have hC : CW D ((h0, .inr (3, [.ref q1, .null, .null, .null, .null, .null, .null, .null, .null, .int (iI 0)])) :: [(q1, aI cg 60 (fun _ => 0)), (q2, aI cg 60 (fun _ => 0))]) A s.heap H _ := hC
  refine ck_putF (ci := 3) (C := RX3) (T := TX3) (N := 10) (v := .ref q2) hx hb hts inX3 tyX3 tyX3_ok nmX3 hown hK hC rfl 1 (by decide) (hts (.fieldLink RX3 15 "GainsReckoner$Sheet" "bought" "[I") (by decide +kernel)) rfl rfl hin rfl rfl rfl (Nat.le_of_ble_eq_true rfl) dX3_init_17 (fun H locs hC => ?_)
  have hC : CW D ((h0, .inr (3, [.ref q1, .ref q2, .null, .null, .null, .null, .null, .null, .null, .int (iI 0)])) :: [(q1, aI cg 60 (fun _ => 0)), (q2, aI cg 60 (fun _ => 0))]) A s.heap H _ := hC
  refine lv_aload_n hx hb dX3_init_20 rfl (lv_at hl 0 rfl) ?_
  refine lv_bipush (v := 60) hx hb dX3_init_21 (by decide +kernel) ?_
  refine ck_newI (N := 60) hx hb (hts (.arrayClass .int) (by decide +kernel)) hK hC hA (by decide) rfl (Nat.le_of_ble_eq_true rfl) (Nat.le_of_ble_eq_true rfl) (Nat.le_of_ble_eq_true rfl) dX3_init_23 (fun q3 H hC => ?_)
  have hC : CW D ((h0, .inr (3, [.ref q1, .ref q2, .null, .null, .null, .null, .null, .null, .null, .int (iI 0)])) :: [(q1, aI cg 60 (fun _ => 0)), (q2, aI cg 60 (fun _ => 0)), (q3, aI cg 60 (fun _ => 0))]) A s.heap H _ := hC
  refine ck_putF (ci := 3) (C := RX3) (T := TX3) (N := 10) (v := .ref q3) hx hb hts inX3 tyX3 tyX3_ok nmX3 hown hK hC rfl 2 (by decide) (hts (.fieldLink RX3 18 "GainsReckoner$Sheet" "boughtGone" "[I") (by decide +kernel)) rfl rfl hin rfl rfl rfl (Nat.le_of_ble_eq_true rfl) dX3_init_25 (fun H locs hC => ?_)
  have hC : CW D ((h0, .inr (3, [.ref q1, .ref q2, .ref q3, .null, .null, .null, .null, .null, .null, .int (iI 0)])) :: [(q1, aI cg 60 (fun _ => 0)), (q2, aI cg 60 (fun _ => 0)), (q3, aI cg 60 (fun _ => 0))]) A s.heap H _ := hC
  refine lv_aload_n hx hb dX3_init_28 rfl (lv_at hl 0 rfl) ?_
  refine lv_bipush (v := 60) hx hb dX3_init_29 (by decide +kernel) ?_
  refine ck_newI (N := 60) hx hb (hts (.arrayClass .int) (by decide +kernel)) hK hC hA (by decide) rfl (Nat.le_of_ble_eq_true rfl) (Nat.le_of_ble_eq_true rfl) (Nat.le_of_ble_eq_true rfl) dX3_init_31 (fun q4 H hC => ?_)
  have hC : CW D ((h0, .inr (3, [.ref q1, .ref q2, .ref q3, .null, .null, .null, .null, .null, .null, .int (iI 0)])) :: [(q1, aI cg 60 (fun _ => 0)), (q2, aI cg 60 (fun _ => 0)), (q3, aI cg 60 (fun _ => 0)), (q4, aI cg 60 (fun _ => 0))]) A s.heap H _ := hC
  refine ck_putF (ci := 3) (C := RX3) (T := TX3) (N := 10) (v := .ref q4) hx hb hts inX3 tyX3 tyX3_ok nmX3 hown hK hC rfl 3 (by decide) (hts (.fieldLink RX3 21 "GainsReckoner$Sheet" "cost" "[I") (by decide +kernel)) rfl rfl hin rfl rfl rfl (Nat.le_of_ble_eq_true rfl) dX3_init_33 (fun H locs hC => ?_)
  have hC : CW D ((h0, .inr (3, [.ref q1, .ref q2, .ref q3, .ref q4, .null, .null, .null, .null, .null, .int (iI 0)])) :: [(q1, aI cg 60 (fun _ => 0)), (q2, aI cg 60 (fun _ => 0)), (q3, aI cg 60 (fun _ => 0)), (q4, aI cg 60 (fun _ => 0))]) A s.heap H _ := hC
  refine lv_aload_n hx hb dX3_init_36 rfl (lv_at hl 0 rfl) ?_
  refine lv_bipush (v := 60) hx hb dX3_init_37 (by decide +kernel) ?_
  refine ck_newI (N := 60) hx hb (hts (.arrayClass .int) (by decide +kernel)) hK hC hA (by decide) rfl (Nat.le_of_ble_eq_true rfl) (Nat.le_of_ble_eq_true rfl) (Nat.le_of_ble_eq_true rfl) dX3_init_39 (fun q5 H hC => ?_)
  have hC : CW D ((h0, .inr (3, [.ref q1, .ref q2, .ref q3, .ref q4, .null, .null, .null, .null, .null, .int (iI 0)])) :: [(q1, aI cg 60 (fun _ => 0)), (q2, aI cg 60 (fun _ => 0)), (q3, aI cg 60 (fun _ => 0)), (q4, aI cg 60 (fun _ => 0)), (q5, aI cg 60 (fun _ => 0))]) A s.heap H _ := hC
  refine ck_putF (ci := 3) (C := RX3) (T := TX3) (N := 10) (v := .ref q5) hx hb hts inX3 tyX3 tyX3_ok nmX3 hown hK hC rfl 4 (by decide) (hts (.fieldLink RX3 24 "GainsReckoner$Sheet" "sold" "[I") (by decide +kernel)) rfl rfl hin rfl rfl rfl (Nat.le_of_ble_eq_true rfl) dX3_init_41 (fun H locs hC => ?_)
  have hC : CW D ((h0, .inr (3, [.ref q1, .ref q2, .ref q3, .ref q4, .ref q5, .null, .null, .null, .null, .int (iI 0)])) :: [(q1, aI cg 60 (fun _ => 0)), (q2, aI cg 60 (fun _ => 0)), (q3, aI cg 60 (fun _ => 0)), (q4, aI cg 60 (fun _ => 0)), (q5, aI cg 60 (fun _ => 0))]) A s.heap H _ := hC
  refine lv_aload_n hx hb dX3_init_44 rfl (lv_at hl 0 rfl) ?_
  refine lv_bipush (v := 60) hx hb dX3_init_45 (by decide +kernel) ?_
  refine ck_newI (N := 60) hx hb (hts (.arrayClass .int) (by decide +kernel)) hK hC hA (by decide) rfl (Nat.le_of_ble_eq_true rfl) (Nat.le_of_ble_eq_true rfl) (Nat.le_of_ble_eq_true rfl) dX3_init_47 (fun q6 H hC => ?_)
  have hC : CW D ((h0, .inr (3, [.ref q1, .ref q2, .ref q3, .ref q4, .ref q5, .null, .null, .null, .null, .int (iI 0)])) :: [(q1, aI cg 60 (fun _ => 0)), (q2, aI cg 60 (fun _ => 0)), (q3, aI cg 60 (fun _ => 0)), (q4, aI cg 60 (fun _ => 0)), (q5, aI cg 60 (fun _ => 0)), (q6, aI cg 60 (fun _ => 0))]) A s.heap H _ := hC
  refine ck_putF (ci := 3) (C := RX3) (T := TX3) (N := 10) (v := .ref q6) hx hb hts inX3 tyX3 tyX3_ok nmX3 hown hK hC rfl 5 (by decide) (hts (.fieldLink RX3 27 "GainsReckoner$Sheet" "soldGone" "[I") (by decide +kernel)) rfl rfl hin rfl rfl rfl (Nat.le_of_ble_eq_true rfl) dX3_init_49 (fun H locs hC => ?_)
  have hC : CW D ((h0, .inr (3, [.ref q1, .ref q2, .ref q3, .ref q4, .ref q5, .ref q6, .null, .null, .null, .int (iI 0)])) :: [(q1, aI cg 60 (fun _ => 0)), (q2, aI cg 60 (fun _ => 0)), (q3, aI cg 60 (fun _ => 0)), (q4, aI cg 60 (fun _ => 0)), (q5, aI cg 60 (fun _ => 0)), (q6, aI cg 60 (fun _ => 0))]) A s.heap H _ := hC
  refine lv_aload_n hx hb dX3_init_52 rfl (lv_at hl 0 rfl) ?_
  refine lv_bipush (v := 60) hx hb dX3_init_53 (by decide +kernel) ?_
  refine ck_newI (N := 60) hx hb (hts (.arrayClass .int) (by decide +kernel)) hK hC hA (by decide) rfl (Nat.le_of_ble_eq_true rfl) (Nat.le_of_ble_eq_true rfl) (Nat.le_of_ble_eq_true rfl) dX3_init_55 (fun q7 H hC => ?_)
  have hC : CW D ((h0, .inr (3, [.ref q1, .ref q2, .ref q3, .ref q4, .ref q5, .ref q6, .null, .null, .null, .int (iI 0)])) :: [(q1, aI cg 60 (fun _ => 0)), (q2, aI cg 60 (fun _ => 0)), (q3, aI cg 60 (fun _ => 0)), (q4, aI cg 60 (fun _ => 0)), (q5, aI cg 60 (fun _ => 0)), (q6, aI cg 60 (fun _ => 0)), (q7, aI cg 60 (fun _ => 0))]) A s.heap H _ := hC
  refine ck_putF (ci := 3) (C := RX3) (T := TX3) (N := 10) (v := .ref q7) hx hb hts inX3 tyX3 tyX3_ok nmX3 hown hK hC rfl 6 (by decide) (hts (.fieldLink RX3 30 "GainsReckoner$Sheet" "proceeds" "[I") (by decide +kernel)) rfl rfl hin rfl rfl rfl (Nat.le_of_ble_eq_true rfl) dX3_init_57 (fun H locs hC => ?_)
  have hC : CW D ((h0, .inr (3, [.ref q1, .ref q2, .ref q3, .ref q4, .ref q5, .ref q6, .ref q7, .null, .null, .int (iI 0)])) :: [(q1, aI cg 60 (fun _ => 0)), (q2, aI cg 60 (fun _ => 0)), (q3, aI cg 60 (fun _ => 0)), (q4, aI cg 60 (fun _ => 0)), (q5, aI cg 60 (fun _ => 0)), (q6, aI cg 60 (fun _ => 0)), (q7, aI cg 60 (fun _ => 0))]) A s.heap H _ := hC
  refine lv_aload_n hx hb dX3_init_60 rfl (lv_at hl 0 rfl) ?_
  refine lv_bipush (v := 60) hx hb dX3_init_61 (by decide +kernel) ?_
  refine ck_newI (N := 60) hx hb (hts (.arrayClass .int) (by decide +kernel)) hK hC hA (by decide) rfl (Nat.le_of_ble_eq_true rfl) (Nat.le_of_ble_eq_true rfl) (Nat.le_of_ble_eq_true rfl) dX3_init_63 (fun q8 H hC => ?_)
  have hC : CW D ((h0, .inr (3, [.ref q1, .ref q2, .ref q3, .ref q4, .ref q5, .ref q6, .ref q7, .null, .null, .int (iI 0)])) :: [(q1, aI cg 60 (fun _ => 0)), (q2, aI cg 60 (fun _ => 0)), (q3, aI cg 60 (fun _ => 0)), (q4, aI cg 60 (fun _ => 0)), (q5, aI cg 60 (fun _ => 0)), (q6, aI cg 60 (fun _ => 0)), (q7, aI cg 60 (fun _ => 0)), (q8, aI cg 60 (fun _ => 0))]) A s.heap H _ := hC
  refine ck_putF (ci := 3) (C := RX3) (T := TX3) (N := 10) (v := .ref q8) hx hb hts inX3 tyX3 tyX3_ok nmX3 hown hK hC rfl 7 (by decide) (hts (.fieldLink RX3 33 "GainsReckoner$Sheet" "pooledUnits" "[I") (by decide +kernel)) rfl rfl hin rfl rfl rfl (Nat.le_of_ble_eq_true rfl) dX3_init_65 (fun H locs hC => ?_)
  have hC : CW D ((h0, .inr (3, [.ref q1, .ref q2, .ref q3, .ref q4, .ref q5, .ref q6, .ref q7, .ref q8, .null, .int (iI 0)])) :: [(q1, aI cg 60 (fun _ => 0)), (q2, aI cg 60 (fun _ => 0)), (q3, aI cg 60 (fun _ => 0)), (q4, aI cg 60 (fun _ => 0)), (q5, aI cg 60 (fun _ => 0)), (q6, aI cg 60 (fun _ => 0)), (q7, aI cg 60 (fun _ => 0)), (q8, aI cg 60 (fun _ => 0))]) A s.heap H _ := hC
  refine lv_aload_n hx hb dX3_init_68 rfl (lv_at hl 0 rfl) ?_
  refine lv_bipush (v := 60) hx hb dX3_init_69 (by decide +kernel) ?_
  refine ck_newI (N := 60) hx hb (hts (.arrayClass .int) (by decide +kernel)) hK hC hA (by decide) rfl (Nat.le_of_ble_eq_true rfl) (Nat.le_of_ble_eq_true rfl) (Nat.le_of_ble_eq_true rfl) dX3_init_71 (fun q9 H hC => ?_)
  have hC : CW D ((h0, .inr (3, [.ref q1, .ref q2, .ref q3, .ref q4, .ref q5, .ref q6, .ref q7, .ref q8, .null, .int (iI 0)])) :: [(q1, aI cg 60 (fun _ => 0)), (q2, aI cg 60 (fun _ => 0)), (q3, aI cg 60 (fun _ => 0)), (q4, aI cg 60 (fun _ => 0)), (q5, aI cg 60 (fun _ => 0)), (q6, aI cg 60 (fun _ => 0)), (q7, aI cg 60 (fun _ => 0)), (q8, aI cg 60 (fun _ => 0)), (q9, aI cg 60 (fun _ => 0))]) A s.heap H _ := hC
  refine ck_putF (ci := 3) (C := RX3) (T := TX3) (N := 10) (v := .ref q9) hx hb hts inX3 tyX3 tyX3_ok nmX3 hown hK hC rfl 8 (by decide) (hts (.fieldLink RX3 36 "GainsReckoner$Sheet" "pooledCost" "[I") (by decide +kernel)) rfl rfl hin rfl rfl rfl (Nat.le_of_ble_eq_true rfl) dX3_init_73 (fun H locs hC => ?_)
  have hC : CW D ((h0, .inr (3, [.ref q1, .ref q2, .ref q3, .ref q4, .ref q5, .ref q6, .ref q7, .ref q8, .ref q9, .int (iI 0)])) :: [(q1, aI cg 60 (fun _ => 0)), (q2, aI cg 60 (fun _ => 0)), (q3, aI cg 60 (fun _ => 0)), (q4, aI cg 60 (fun _ => 0)), (q5, aI cg 60 (fun _ => 0)), (q6, aI cg 60 (fun _ => 0)), (q7, aI cg 60 (fun _ => 0)), (q8, aI cg 60 (fun _ => 0)), (q9, aI cg 60 (fun _ => 0))]) A s.heap H _ := hC
  refine lv_aload_n hx hb dX3_init_76 rfl (lv_at hl 0 rfl) ?_
  refine lv_iconst (v := 0) hx hb dX3_init_77 rfl ?_
  refine ck_put (ci := 3) (C := RX3) (T := TX3) (N := 10) (v := .int 0) hx hb hts inX3 tyX3 tyX3_ok nmX3 hown hK hC rfl 9 (by decide) (hts (.fieldLink RX3 39 "GainsReckoner$Sheet" "size" "I") (by decide +kernel)) rfl rfl rfl rfl (Nat.le_of_ble_eq_true rfl) dX3_init_78 (fun H locs hC => ?_)
  have hC : CW D ((h0, .inr (3, [.ref q1, .ref q2, .ref q3, .ref q4, .ref q5, .ref q6, .ref q7, .ref q8, .ref q9, .int (iI 0)])) :: [(q1, aI cg 60 (fun _ => 0)), (q2, aI cg 60 (fun _ => 0)), (q3, aI cg 60 (fun _ => 0)), (q4, aI cg 60 (fun _ => 0)), (q5, aI cg 60 (fun _ => 0)), (q6, aI cg 60 (fun _ => 0)), (q7, aI cg 60 (fun _ => 0)), (q8, aI cg 60 (fun _ => 0)), (q9, aI cg 60 (fun _ => 0))]) A s.heap H _ := hC
  exact ck_ret (fun k => match k with | 0 => h0 | 1 => q1 | 2 => q2 | 3 => q3 | 4 => q4 | 5 => q5 | 6 => q6 | 7 => q7 | 8 => q8 | _ => q9) hx hb hr hlocks hC rfl rfl dX3_init_81
def celMt (cg : Nat → ClassId) (ad : Nat → Nat) (f : Nat → Int) (k : Nat) : va_E := match k with
  | 0 => .inr (2, [.ref (ad 1), .ref (ad 2), .ref (ad 3), .ref (ad 4), .ref (ad 5), .ref (ad 6), .int (iI (f 6))])
  | 1 => aI cg 60 f
  | 2 => aI cg 60 f
  | 3 => aI cg 60 f
  | 4 => aI cg 60 f
  | 5 => aI cg 60 f
  | _ => aI cg 60 f
set_option maxHeartbeats 4000000 in
set_option maxRecDepth 100000 in
theorem c_X2_init (l : Launch) (cg : Nat → ClassId) (D : va_G) (sz h0 : Nat) : CK l yX2_init wsX2_init ({ frames := 1, cells := 6, slots := 360, locals := 20 }) D cg sz h0 2 [.null, .null, .null, .null, .null, .null, .int (iI 0)] 7 (celMt cg) z0 [] 6 360 := by
  refine ck_open (cc := cX2_init) (maxL := 1) (by decide) rfl (Nat.le_of_ble_eq_true rfl) rfl ?_
  intro p e s m args below meth c A hx hb hml hr hown hts hlocks hin hK hN hO hA ls hl hC
  have hown : s.vm.findClass RX2 = some m.cls := hown
  have inX2 : ∀ w ∈ wsX20, w ∈ wsX2_init := by intro w h; exact List.mem_cons_of_mem _ (List.mem_append_right _ h)
  have hoi : Cond.code Lib.objectInit ⟨#[0xb1]⟩ 1 none ∈ wsX2_init := List.mem_cons_of_mem _ (List.mem_append_left _ (List.mem_of_getElem? (i := 2) rfl))
  have hl : lv_has ls 1 [(0, .ref h0)] := hl
  refine lv_aload_n hx hb dX2_init_0 rfl (lv_at hl 0 rfl) ?_
  refine ck_obj hx hb (hml.trans hl.1.symm) hown (hts (.methodLink RX2 3 objectInit) (by decide +kernel)) (hts (.instanceMethod objectInit) (by decide +kernel)) (hts _ hoi) dX2_init_1 (Nat.le_of_ble_eq_true rfl) (Nat.le_of_ble_eq_true rfl) ?_
  refine lv_aload_n hx hb dX2_init_4 rfl (lv_at hl 0 rfl) ?_
  refine lv_bipush (v := 60) hx hb dX2_init_5 (by decide +kernel) ?_
  refine ck_newI (N := 60) hx hb (hts (.arrayClass .int) (by decide +kernel)) hK hC hA (by decide) rfl (Nat.le_of_ble_eq_true rfl) (Nat.le_of_ble_eq_true rfl) (Nat.le_of_ble_eq_true rfl) dX2_init_7 (fun q1 H hC => ?_)
  have hC : CW D ((h0, .inr (2, [.null, .null, .null, .null, .null, .null, .int (iI 0)])) :: [(q1, aI cg 60 (fun _ => 0))]) A s.heap H _ := hC
  refine ck_putF (ci := 2) (C := RX2) (T := TX2) (N := 7) (v := .ref q1) hx hb hts inX2 tyX2 tyX2_ok nmX2 hown hK hC rfl 0 (by decide) (hts (.fieldLink RX2 9 "GainsReckoner$Matches" "kind" "[I") (by decide +kernel)) rfl rfl hin rfl rfl rfl (Nat.le_of_ble_eq_true rfl) dX2_init_9 (fun H locs hC => ?_)
  have hC : CW D ((h0, .inr (2, [.ref q1, .null, .null, .null, .null, .null, .int (iI 0)])) :: [(q1, aI cg 60 (fun _ => 0))]) A s.heap H _ := hC
  refine lv_aload_n hx hb dX2_init_12 rfl (lv_at hl 0 rfl) ?_
  refine lv_bipush (v := 60) hx hb dX2_init_13 (by decide +kernel) ?_
  refine ck_newI (N := 60) hx hb (hts (.arrayClass .int) (by decide +kernel)) hK hC hA (by decide) rfl (Nat.le_of_ble_eq_true rfl) (Nat.le_of_ble_eq_true rfl) (Nat.le_of_ble_eq_true rfl) dX2_init_15 (fun q2 H hC => ?_)
  have hC : CW D ((h0, .inr (2, [.ref q1, .null, .null, .null, .null, .null, .int (iI 0)])) :: [(q1, aI cg 60 (fun _ => 0)), (q2, aI cg 60 (fun _ => 0))]) A s.heap H _ := hC
  refine ck_putF (ci := 2) (C := RX2) (T := TX2) (N := 7) (v := .ref q2) hx hb hts inX2 tyX2 tyX2_ok nmX2 hown hK hC rfl 1 (by decide) (hts (.fieldLink RX2 15 "GainsReckoner$Matches" "soldOn" "[I") (by decide +kernel)) rfl rfl hin rfl rfl rfl (Nat.le_of_ble_eq_true rfl) dX2_init_17 (fun H locs hC => ?_)
  have hC : CW D ((h0, .inr (2, [.ref q1, .ref q2, .null, .null, .null, .null, .int (iI 0)])) :: [(q1, aI cg 60 (fun _ => 0)), (q2, aI cg 60 (fun _ => 0))]) A s.heap H _ := hC
  refine lv_aload_n hx hb dX2_init_20 rfl (lv_at hl 0 rfl) ?_
  refine lv_bipush (v := 60) hx hb dX2_init_21 (by decide +kernel) ?_
  refine ck_newI (N := 60) hx hb (hts (.arrayClass .int) (by decide +kernel)) hK hC hA (by decide) rfl (Nat.le_of_ble_eq_true rfl) (Nat.le_of_ble_eq_true rfl) (Nat.le_of_ble_eq_true rfl) dX2_init_23 (fun q3 H hC => ?_)
  have hC : CW D ((h0, .inr (2, [.ref q1, .ref q2, .null, .null, .null, .null, .int (iI 0)])) :: [(q1, aI cg 60 (fun _ => 0)), (q2, aI cg 60 (fun _ => 0)), (q3, aI cg 60 (fun _ => 0))]) A s.heap H _ := hC
  refine ck_putF (ci := 2) (C := RX2) (T := TX2) (N := 7) (v := .ref q3) hx hb hts inX2 tyX2 tyX2_ok nmX2 hown hK hC rfl 2 (by decide) (hts (.fieldLink RX2 18 "GainsReckoner$Matches" "boughtOn" "[I") (by decide +kernel)) rfl rfl hin rfl rfl rfl (Nat.le_of_ble_eq_true rfl) dX2_init_25 (fun H locs hC => ?_)
  have hC : CW D ((h0, .inr (2, [.ref q1, .ref q2, .ref q3, .null, .null, .null, .int (iI 0)])) :: [(q1, aI cg 60 (fun _ => 0)), (q2, aI cg 60 (fun _ => 0)), (q3, aI cg 60 (fun _ => 0))]) A s.heap H _ := hC
  refine lv_aload_n hx hb dX2_init_28 rfl (lv_at hl 0 rfl) ?_
  refine lv_bipush (v := 60) hx hb dX2_init_29 (by decide +kernel) ?_
  refine ck_newI (N := 60) hx hb (hts (.arrayClass .int) (by decide +kernel)) hK hC hA (by decide) rfl (Nat.le_of_ble_eq_true rfl) (Nat.le_of_ble_eq_true rfl) (Nat.le_of_ble_eq_true rfl) dX2_init_31 (fun q4 H hC => ?_)
  have hC : CW D ((h0, .inr (2, [.ref q1, .ref q2, .ref q3, .null, .null, .null, .int (iI 0)])) :: [(q1, aI cg 60 (fun _ => 0)), (q2, aI cg 60 (fun _ => 0)), (q3, aI cg 60 (fun _ => 0)), (q4, aI cg 60 (fun _ => 0))]) A s.heap H _ := hC
  refine ck_putF (ci := 2) (C := RX2) (T := TX2) (N := 7) (v := .ref q4) hx hb hts inX2 tyX2 tyX2_ok nmX2 hown hK hC rfl 3 (by decide) (hts (.fieldLink RX2 21 "GainsReckoner$Matches" "units" "[I") (by decide +kernel)) rfl rfl hin rfl rfl rfl (Nat.le_of_ble_eq_true rfl) dX2_init_33 (fun H locs hC => ?_)
  have hC : CW D ((h0, .inr (2, [.ref q1, .ref q2, .ref q3, .ref q4, .null, .null, .int (iI 0)])) :: [(q1, aI cg 60 (fun _ => 0)), (q2, aI cg 60 (fun _ => 0)), (q3, aI cg 60 (fun _ => 0)), (q4, aI cg 60 (fun _ => 0))]) A s.heap H _ := hC
  refine lv_aload_n hx hb dX2_init_36 rfl (lv_at hl 0 rfl) ?_
  refine lv_bipush (v := 60) hx hb dX2_init_37 (by decide +kernel) ?_
  refine ck_newI (N := 60) hx hb (hts (.arrayClass .int) (by decide +kernel)) hK hC hA (by decide) rfl (Nat.le_of_ble_eq_true rfl) (Nat.le_of_ble_eq_true rfl) (Nat.le_of_ble_eq_true rfl) dX2_init_39 (fun q5 H hC => ?_)
  have hC : CW D ((h0, .inr (2, [.ref q1, .ref q2, .ref q3, .ref q4, .null, .null, .int (iI 0)])) :: [(q1, aI cg 60 (fun _ => 0)), (q2, aI cg 60 (fun _ => 0)), (q3, aI cg 60 (fun _ => 0)), (q4, aI cg 60 (fun _ => 0)), (q5, aI cg 60 (fun _ => 0))]) A s.heap H _ := hC
  refine ck_putF (ci := 2) (C := RX2) (T := TX2) (N := 7) (v := .ref q5) hx hb hts inX2 tyX2 tyX2_ok nmX2 hown hK hC rfl 4 (by decide) (hts (.fieldLink RX2 24 "GainsReckoner$Matches" "cost" "[I") (by decide +kernel)) rfl rfl hin rfl rfl rfl (Nat.le_of_ble_eq_true rfl) dX2_init_41 (fun H locs hC => ?_)
  have hC : CW D ((h0, .inr (2, [.ref q1, .ref q2, .ref q3, .ref q4, .ref q5, .null, .int (iI 0)])) :: [(q1, aI cg 60 (fun _ => 0)), (q2, aI cg 60 (fun _ => 0)), (q3, aI cg 60 (fun _ => 0)), (q4, aI cg 60 (fun _ => 0)), (q5, aI cg 60 (fun _ => 0))]) A s.heap H _ := hC
  refine lv_aload_n hx hb dX2_init_44 rfl (lv_at hl 0 rfl) ?_
  refine lv_bipush (v := 60) hx hb dX2_init_45 (by decide +kernel) ?_
  refine ck_newI (N := 60) hx hb (hts (.arrayClass .int) (by decide +kernel)) hK hC hA (by decide) rfl (Nat.le_of_ble_eq_true rfl) (Nat.le_of_ble_eq_true rfl) (Nat.le_of_ble_eq_true rfl) dX2_init_47 (fun q6 H hC => ?_)
  have hC : CW D ((h0, .inr (2, [.ref q1, .ref q2, .ref q3, .ref q4, .ref q5, .null, .int (iI 0)])) :: [(q1, aI cg 60 (fun _ => 0)), (q2, aI cg 60 (fun _ => 0)), (q3, aI cg 60 (fun _ => 0)), (q4, aI cg 60 (fun _ => 0)), (q5, aI cg 60 (fun _ => 0)), (q6, aI cg 60 (fun _ => 0))]) A s.heap H _ := hC
  refine ck_putF (ci := 2) (C := RX2) (T := TX2) (N := 7) (v := .ref q6) hx hb hts inX2 tyX2 tyX2_ok nmX2 hown hK hC rfl 5 (by decide) (hts (.fieldLink RX2 27 "GainsReckoner$Matches" "proceeds" "[I") (by decide +kernel)) rfl rfl hin rfl rfl rfl (Nat.le_of_ble_eq_true rfl) dX2_init_49 (fun H locs hC => ?_)
  have hC : CW D ((h0, .inr (2, [.ref q1, .ref q2, .ref q3, .ref q4, .ref q5, .ref q6, .int (iI 0)])) :: [(q1, aI cg 60 (fun _ => 0)), (q2, aI cg 60 (fun _ => 0)), (q3, aI cg 60 (fun _ => 0)), (q4, aI cg 60 (fun _ => 0)), (q5, aI cg 60 (fun _ => 0)), (q6, aI cg 60 (fun _ => 0))]) A s.heap H _ := hC
  refine lv_aload_n hx hb dX2_init_52 rfl (lv_at hl 0 rfl) ?_
  refine lv_iconst (v := 0) hx hb dX2_init_53 rfl ?_
  refine ck_put (ci := 2) (C := RX2) (T := TX2) (N := 7) (v := .int 0) hx hb hts inX2 tyX2 tyX2_ok nmX2 hown hK hC rfl 6 (by decide) (hts (.fieldLink RX2 30 "GainsReckoner$Matches" "size" "I") (by decide +kernel)) rfl rfl rfl rfl (Nat.le_of_ble_eq_true rfl) dX2_init_54 (fun H locs hC => ?_)
  have hC : CW D ((h0, .inr (2, [.ref q1, .ref q2, .ref q3, .ref q4, .ref q5, .ref q6, .int (iI 0)])) :: [(q1, aI cg 60 (fun _ => 0)), (q2, aI cg 60 (fun _ => 0)), (q3, aI cg 60 (fun _ => 0)), (q4, aI cg 60 (fun _ => 0)), (q5, aI cg 60 (fun _ => 0)), (q6, aI cg 60 (fun _ => 0))]) A s.heap H _ := hC
  exact ck_ret (fun k => match k with | 0 => h0 | 1 => q1 | 2 => q2 | 3 => q3 | 4 => q4 | 5 => q5 | _ => q6) hx hb hr hlocks hC rfl rfl dX2_init_57
def celJo (cg : Nat → ClassId) (ad : Nat → Nat) (f : Nat → Int) (k : Nat) : va_E := match k with
  | 0 => .inr (0, [.ref (ad 1), .ref (ad 2), .ref (ad 3), .ref (ad 4), .ref (ad 5), .ref (ad 6), .int (iI (f 6))])
  | 1 => aZ cg 60 f
  | 2 => aZ cg 60 f
  | 3 => aI cg 60 f
  | 4 => aI cg 60 f
  | 5 => aI cg 60 f
  | _ => aI cg 60 f
set_option maxHeartbeats 4000000 in
set_option maxRecDepth 100000 in
theorem c_X0_init (l : Launch) (cg : Nat → ClassId) (D : va_G) (sz h0 : Nat) : CK l yX0_init wsX0_init ({ frames := 1, cells := 6, slots := 360, locals := 20 }) D cg sz h0 0 [.null, .null, .null, .null, .null, .null, .int (iI 0)] 7 (celJo cg) z0 [] 6 360 := by
  refine ck_open (cc := cX0_init) (maxL := 1) (by decide) rfl (Nat.le_of_ble_eq_true rfl) rfl ?_
  intro p e s m args below meth c A hx hb hml hr hown hts hlocks hin hK hN hO hA ls hl hC
  have hown : s.vm.findClass RX0 = some m.cls := hown
  have inX0 : ∀ w ∈ wsX00, w ∈ wsX0_init := by intro w h; exact List.mem_cons_of_mem _ (List.mem_append_right _ h)
  have hoi : Cond.code Lib.objectInit ⟨#[0xb1]⟩ 1 none ∈ wsX0_init := List.mem_cons_of_mem _ (List.mem_append_left _ (List.mem_of_getElem? (i := 2) rfl))
  have hl : lv_has ls 1 [(0, .ref h0)] := hl
  refine lv_aload_n hx hb dX0_init_0 rfl (lv_at hl 0 rfl) ?_
  refine ck_obj hx hb (hml.trans hl.1.symm) hown (hts (.methodLink RX0 3 objectInit) (by decide +kernel)) (hts (.instanceMethod objectInit) (by decide +kernel)) (hts _ hoi) dX0_init_1 (Nat.le_of_ble_eq_true rfl) (Nat.le_of_ble_eq_true rfl) ?_
  refine lv_aload_n hx hb dX0_init_4 rfl (lv_at hl 0 rfl) ?_
  refine lv_bipush (v := 60) hx hb dX0_init_5 (by decide +kernel) ?_
  refine ck_newZ (N := 60) hx hb (hts (.arrayClass .boolean) (by decide +kernel)) hK hC hA (by decide) rfl (Nat.le_of_ble_eq_true rfl) (Nat.le_of_ble_eq_true rfl) (Nat.le_of_ble_eq_true rfl) dX0_init_7 (fun q1 H hC => ?_)
  have hC : CW D ((h0, .inr (0, [.null, .null, .null, .null, .null, .null, .int (iI 0)])) :: [(q1, aZ cg 60 (fun _ => 0))]) A s.heap H _ := hC
  refine ck_putF (ci := 0) (C := RX0) (T := TX0) (N := 7) (v := .ref q1) hx hb hts inX0 tyX0 tyX0_ok nmX0 hown hK hC rfl 0 (by decide) (hts (.fieldLink RX0 9 "GainsReckoner$Journal" "sale" "[Z") (by decide +kernel)) rfl rfl hin rfl rfl rfl (Nat.le_of_ble_eq_true rfl) dX0_init_9 (fun H locs hC => ?_)
  have hC : CW D ((h0, .inr (0, [.ref q1, .null, .null, .null, .null, .null, .int (iI 0)])) :: [(q1, aZ cg 60 (fun _ => 0))]) A s.heap H _ := hC
  refine lv_aload_n hx hb dX0_init_12 rfl (lv_at hl 0 rfl) ?_
  refine lv_bipush (v := 60) hx hb dX0_init_13 (by decide +kernel) ?_
  refine ck_newZ (N := 60) hx hb (hts (.arrayClass .boolean) (by decide +kernel)) hK hC hA (by decide) rfl (Nat.le_of_ble_eq_true rfl) (Nat.le_of_ble_eq_true rfl) (Nat.le_of_ble_eq_true rfl) dX0_init_15 (fun q2 H hC => ?_)
  have hC : CW D ((h0, .inr (0, [.ref q1, .null, .null, .null, .null, .null, .int (iI 0)])) :: [(q1, aZ cg 60 (fun _ => 0)), (q2, aZ cg 60 (fun _ => 0))]) A s.heap H _ := hC
  refine ck_putF (ci := 0) (C := RX0) (T := TX0) (N := 7) (v := .ref q2) hx hb hts inX0 tyX0 tyX0_ok nmX0 hown hK hC rfl 1 (by decide) (hts (.fieldLink RX0 15 "GainsReckoner$Journal" "cancelled" "[Z") (by decide +kernel)) rfl rfl hin rfl rfl rfl (Nat.le_of_ble_eq_true rfl) dX0_init_17 (fun H locs hC => ?_)
  have hC : CW D ((h0, .inr (0, [.ref q1, .ref q2, .null, .null, .null, .null, .int (iI 0)])) :: [(q1, aZ cg 60 (fun _ => 0)), (q2, aZ cg 60 (fun _ => 0))]) A s.heap H _ := hC
  refine lv_aload_n hx hb dX0_init_20 rfl (lv_at hl 0 rfl) ?_
  refine lv_bipush (v := 60) hx hb dX0_init_21 (by decide +kernel) ?_
  refine ck_newI (N := 60) hx hb (hts (.arrayClass .int) (by decide +kernel)) hK hC hA (by decide) rfl (Nat.le_of_ble_eq_true rfl) (Nat.le_of_ble_eq_true rfl) (Nat.le_of_ble_eq_true rfl) dX0_init_23 (fun q3 H hC => ?_)
  have hC : CW D ((h0, .inr (0, [.ref q1, .ref q2, .null, .null, .null, .null, .int (iI 0)])) :: [(q1, aZ cg 60 (fun _ => 0)), (q2, aZ cg 60 (fun _ => 0)), (q3, aI cg 60 (fun _ => 0))]) A s.heap H _ := hC
  refine ck_putF (ci := 0) (C := RX0) (T := TX0) (N := 7) (v := .ref q3) hx hb hts inX0 tyX0 tyX0_ok nmX0 hown hK hC rfl 2 (by decide) (hts (.fieldLink RX0 18 "GainsReckoner$Journal" "share" "[I") (by decide +kernel)) rfl rfl hin rfl rfl rfl (Nat.le_of_ble_eq_true rfl) dX0_init_25 (fun H locs hC => ?_)
  have hC : CW D ((h0, .inr (0, [.ref q1, .ref q2, .ref q3, .null, .null, .null, .int (iI 0)])) :: [(q1, aZ cg 60 (fun _ => 0)), (q2, aZ cg 60 (fun _ => 0)), (q3, aI cg 60 (fun _ => 0))]) A s.heap H _ := hC
  refine lv_aload_n hx hb dX0_init_28 rfl (lv_at hl 0 rfl) ?_
  refine lv_bipush (v := 60) hx hb dX0_init_29 (by decide +kernel) ?_
  refine ck_newI (N := 60) hx hb (hts (.arrayClass .int) (by decide +kernel)) hK hC hA (by decide) rfl (Nat.le_of_ble_eq_true rfl) (Nat.le_of_ble_eq_true rfl) (Nat.le_of_ble_eq_true rfl) dX0_init_31 (fun q4 H hC => ?_)
  have hC : CW D ((h0, .inr (0, [.ref q1, .ref q2, .ref q3, .null, .null, .null, .int (iI 0)])) :: [(q1, aZ cg 60 (fun _ => 0)), (q2, aZ cg 60 (fun _ => 0)), (q3, aI cg 60 (fun _ => 0)), (q4, aI cg 60 (fun _ => 0))]) A s.heap H _ := hC
  refine ck_putF (ci := 0) (C := RX0) (T := TX0) (N := 7) (v := .ref q4) hx hb hts inX0 tyX0 tyX0_ok nmX0 hown hK hC rfl 3 (by decide) (hts (.fieldLink RX0 22 "GainsReckoner$Journal" "day" "[I") (by decide +kernel)) rfl rfl hin rfl rfl rfl (Nat.le_of_ble_eq_true rfl) dX0_init_33 (fun H locs hC => ?_)
  have hC : CW D ((h0, .inr (0, [.ref q1, .ref q2, .ref q3, .ref q4, .null, .null, .int (iI 0)])) :: [(q1, aZ cg 60 (fun _ => 0)), (q2, aZ cg 60 (fun _ => 0)), (q3, aI cg 60 (fun _ => 0)), (q4, aI cg 60 (fun _ => 0))]) A s.heap H _ := hC
  refine lv_aload_n hx hb dX0_init_36 rfl (lv_at hl 0 rfl) ?_
  refine lv_bipush (v := 60) hx hb dX0_init_37 (by decide +kernel) ?_
  refine ck_newI (N := 60) hx hb (hts (.arrayClass .int) (by decide +kernel)) hK hC hA (by decide) rfl (Nat.le_of_ble_eq_true rfl) (Nat.le_of_ble_eq_true rfl) (Nat.le_of_ble_eq_true rfl) dX0_init_39 (fun q5 H hC => ?_)
  have hC : CW D ((h0, .inr (0, [.ref q1, .ref q2, .ref q3, .ref q4, .null, .null, .int (iI 0)])) :: [(q1, aZ cg 60 (fun _ => 0)), (q2, aZ cg 60 (fun _ => 0)), (q3, aI cg 60 (fun _ => 0)), (q4, aI cg 60 (fun _ => 0)), (q5, aI cg 60 (fun _ => 0))]) A s.heap H _ := hC
  refine ck_putF (ci := 0) (C := RX0) (T := TX0) (N := 7) (v := .ref q5) hx hb hts inX0 tyX0 tyX0_ok nmX0 hown hK hC rfl 4 (by decide) (hts (.fieldLink RX0 25 "GainsReckoner$Journal" "count" "[I") (by decide +kernel)) rfl rfl hin rfl rfl rfl (Nat.le_of_ble_eq_true rfl) dX0_init_41 (fun H locs hC => ?_)
  have hC : CW D ((h0, .inr (0, [.ref q1, .ref q2, .ref q3, .ref q4, .ref q5, .null, .int (iI 0)])) :: [(q1, aZ cg 60 (fun _ => 0)), (q2, aZ cg 60 (fun _ => 0)), (q3, aI cg 60 (fun _ => 0)), (q4, aI cg 60 (fun _ => 0)), (q5, aI cg 60 (fun _ => 0))]) A s.heap H _ := hC
  refine lv_aload_n hx hb dX0_init_44 rfl (lv_at hl 0 rfl) ?_
  refine lv_bipush (v := 60) hx hb dX0_init_45 (by decide +kernel) ?_
  refine ck_newI (N := 60) hx hb (hts (.arrayClass .int) (by decide +kernel)) hK hC hA (by decide) rfl (Nat.le_of_ble_eq_true rfl) (Nat.le_of_ble_eq_true rfl) (Nat.le_of_ble_eq_true rfl) dX0_init_47 (fun q6 H hC => ?_)
  have hC : CW D ((h0, .inr (0, [.ref q1, .ref q2, .ref q3, .ref q4, .ref q5, .null, .int (iI 0)])) :: [(q1, aZ cg 60 (fun _ => 0)), (q2, aZ cg 60 (fun _ => 0)), (q3, aI cg 60 (fun _ => 0)), (q4, aI cg 60 (fun _ => 0)), (q5, aI cg 60 (fun _ => 0)), (q6, aI cg 60 (fun _ => 0))]) A s.heap H _ := hC
  refine ck_putF (ci := 0) (C := RX0) (T := TX0) (N := 7) (v := .ref q6) hx hb hts inX0 tyX0 tyX0_ok nmX0 hown hK hC rfl 5 (by decide) (hts (.fieldLink RX0 28 "GainsReckoner$Journal" "money" "[I") (by decide +kernel)) rfl rfl hin rfl rfl rfl (Nat.le_of_ble_eq_true rfl) dX0_init_49 (fun H locs hC => ?_)
  have hC : CW D ((h0, .inr (0, [.ref q1, .ref q2, .ref q3, .ref q4, .ref q5, .ref q6, .int (iI 0)])) :: [(q1, aZ cg 60 (fun _ => 0)), (q2, aZ cg 60 (fun _ => 0)), (q3, aI cg 60 (fun _ => 0)), (q4, aI cg 60 (fun _ => 0)), (q5, aI cg 60 (fun _ => 0)), (q6, aI cg 60 (fun _ => 0))]) A s.heap H _ := hC
  refine lv_aload_n hx hb dX0_init_52 rfl (lv_at hl 0 rfl) ?_
  refine lv_iconst (v := 0) hx hb dX0_init_53 rfl ?_
  refine ck_put (ci := 0) (C := RX0) (T := TX0) (N := 7) (v := .int 0) hx hb hts inX0 tyX0 tyX0_ok nmX0 hown hK hC rfl 6 (by decide) (hts (.fieldLink RX0 31 "GainsReckoner$Journal" "size" "I") (by decide +kernel)) rfl rfl rfl rfl (Nat.le_of_ble_eq_true rfl) dX0_init_54 (fun H locs hC => ?_)
  have hC : CW D ((h0, .inr (0, [.ref q1, .ref q2, .ref q3, .ref q4, .ref q5, .ref q6, .int (iI 0)])) :: [(q1, aZ cg 60 (fun _ => 0)), (q2, aZ cg 60 (fun _ => 0)), (q3, aI cg 60 (fun _ => 0)), (q4, aI cg 60 (fun _ => 0)), (q5, aI cg 60 (fun _ => 0)), (q6, aI cg 60 (fun _ => 0))]) A s.heap H _ := hC
  exact ck_ret (fun k => match k with | 0 => h0 | 1 => q1 | 2 => q2 | 3 => q3 | 4 => q4 | 5 => q5 | _ => q6) hx hb hr hlocks hC rfl rfl dX0_init_57
theorem bl4 : ∀ j, j < 3 → defaultValue (tyX4 j) = vp_V [.null, .null, .int (iI 0)] j
  | 0, _ => rfl
  | 1, _ => rfl
  | 2, _ => rfl
  | k + 3, h => absurd h (by omega)
theorem bl3 : ∀ j, j < 10 → defaultValue (tyX3 j) = vp_V [.null, .null, .null, .null, .null, .null, .null, .null, .null, .int (iI 0)] j
  | 0, _ => rfl
  | 1, _ => rfl
  | 2, _ => rfl
  | 3, _ => rfl
  | 4, _ => rfl
  | 5, _ => rfl
  | 6, _ => rfl
  | 7, _ => rfl
  | 8, _ => rfl
  | 9, _ => rfl
  | k + 10, h => absurd h (by omega)
theorem bl2 : ∀ j, j < 7 → defaultValue (tyX2 j) = vp_V [.null, .null, .null, .null, .null, .null, .int (iI 0)] j
  | 0, _ => rfl
  | 1, _ => rfl
  | 2, _ => rfl
  | 3, _ => rfl
  | 4, _ => rfl
  | 5, _ => rfl
  | 6, _ => rfl
  | k + 7, h => absurd h (by omega)
theorem bl0 : ∀ j, j < 7 → defaultValue (tyX0 j) = vp_V [.null, .null, .null, .null, .null, .null, .int (iI 0)] j
  | 0, _ => rfl
  | 1, _ => rfl
  | 2, _ => rfl
  | 3, _ => rfl
  | 4, _ => rfl
  | 5, _ => rfl
  | 6, _ => rfl
  | k + 7, h => absurd h (by omega)
theorem bl1 : ∀ j, j < 4 → defaultValue (tyX1 j) = vp_V [.int (iI 0), .null, .null, .null] j
  | 0, _ => rfl
  | 1, _ => rfl
  | 2, _ => rfl
  | 3, _ => rfl
  | k + 4, h => absurd h (by omega)
theorem bl5 : ∀ j, j < 4 → defaultValue (tyX5 j) = vp_V [.null, .null, .null, .int (iI 0)] j
  | 0, _ => rfl
  | 1, _ => rfl
  | 2, _ => rfl
  | 3, _ => rfl
  | k + 4, h => absurd h (by omega)
set_option maxHeartbeats 4000000 in
set_option maxRecDepth 100000 in
theorem c_X1_init (l : Launch) (cg : Nat → ClassId) (D : va_G) (sz h0 : Nat) (v : Int) : CK l yX1_init wsX1_init ({ frames := 2, cells := 20, slots := 928, locals := 44 }) D cg sz h0 1 [.int (iI 0), .null, .null, .null] 21 (celL cg) (stC z0 0 (fnU (fun _ => 0) 0 v)) [.int (iI v)] 20 928 := by
  refine ck_open (cc := cX1_init) (maxL := 2) (by decide) rfl (Nat.le_of_ble_eq_true rfl) rfl ?_
  intro p e s m args below meth c A hx hb hml hr hown hts hlocks hin hK hN hO hA ls hl hC
  have hown : s.vm.findClass RX1 = some m.cls := hown
  have inX4 : ∀ w ∈ wsX40, w ∈ wsX1_init := fun w h => List.mem_cons_of_mem _ (List.mem_append_left _ (List.mem_append_left _ (List.mem_append_left _ (List.mem_append_right _ h))))
  have inX1 : ∀ w ∈ wsX10, w ∈ wsX1_init := fun w h => List.mem_cons_of_mem _ (List.mem_append_left _ (List.mem_append_left _ (List.mem_append_right _ h)))
  have inX3 : ∀ w ∈ wsX30, w ∈ wsX1_init := fun w h => List.mem_cons_of_mem _ (List.mem_append_left _ (List.mem_append_right _ h))
  have inX2 : ∀ w ∈ wsX20, w ∈ wsX1_init := fun w h => List.mem_cons_of_mem _ (List.mem_append_right _ h)
  have hoi : Cond.code Lib.objectInit ⟨#[0xb1]⟩ 1 none ∈ wsX1_init := List.mem_cons_of_mem _ (List.mem_append_left _ (List.mem_append_left _ (List.mem_append_left _ (List.mem_append_left _ (List.mem_append_left _ (List.mem_of_getElem? (i := 2) rfl))))))
  have hl : lv_has ls 2 [(0, .ref h0), (1, .int (iI v))] := hl
  refine lv_aload_n hx hb dX1_init_0 rfl (lv_at hl 0 rfl) ?_
  refine ck_obj hx hb (hml.trans hl.1.symm) hown (hts (.methodLink RX1 3 objectInit) (by decide +kernel)) (hts (.instanceMethod objectInit) (by decide +kernel)) (hts _ hoi) dX1_init_1 (Nat.le_of_ble_eq_true rfl) (Nat.le_of_ble_eq_true rfl) ?_
  refine lv_aload_n hx hb dX1_init_4 rfl (lv_at hl 0 rfl) ?_
  refine ck_new (ci := 4) (fs := [.null, .null, .int (iI 0)]) (C := RX4) (T := TX4) (N := 3) hx hb hts inX4 tyX4 tyX4_ok hown (hts (.classLink RX1 9 RX4) (by decide +kernel)) (hts (.instantiable RX4 3) (by decide +kernel)) (hts (.initialized RX4) (by decide +kernel)) hK hC hA rfl bl4 (Nat.le_of_ble_eq_true rfl) (Nat.le_of_ble_eq_true rfl) dX1_init_5 (fun q H hC => ?_)
  refine lv_dup hx hb dX1_init_8 rfl ?_
  refine ck_go (n := 3) (cel := celSp cg) (st := z0) hC hA (va_runIN (As := []) (rest := [.ref q, .ref h0]) ⟨hx, hb, hml, hown, hts⟩ (c_X4_init l cg D H.size q) ⟨va_cnB 0 hts gX1_init_X4_init_n11 rfl rfl rfl (hN.2 _ (List.mem_of_getElem? (i := 1) rfl)) (hts (.initialized RX4) (by decide +kernel)) (by decide +kernel) ⟨Nat.le_of_ble_eq_true rfl, Nat.le_of_ble_eq_true rfl⟩, rfl, (hts (.instanceMethod yX4_init) (by decide +kernel))⟩ (ck_pre hK hN hO hC) rfl rfl hl.1 rfl (lv_room (Nat.le_of_ble_eq_true rfl)) dX1_init_9 ⟨Nat.le_of_ble_eq_true rfl, Nat.le_of_ble_eq_true rfl⟩) (fun a1 H locs ea1 hC => ?_)
  have hC : CW D ((h0, .inr (1, [.int (iI 0), .null, .null, .null])) :: wl 3 (celSp cg) a1 z0) A s.heap H _ := hC
  refine ck_putF (ci := 1) (C := RX1) (T := TX1) (N := 4) (v := .ref q) hx hb hts inX1 tyX1 tyX1_ok nmX1 hown hK hC rfl 1 (by decide) (hts (.fieldLink RX1 12 "GainsReckoner$Ledger" "splits" "LGainsReckoner$Splits;") (by decide +kernel)) rfl rfl hin rfl rfl rfl (Nat.le_of_ble_eq_true rfl) dX1_init_12 (fun H locs hC => ?_)
  rw [← ea1] at hC
  have hC : CW D ((h0, .inr (1, [.int (iI 0), .ref (a1 0), .null, .null])) :: wl 3 (celSp cg) a1 z0) A s.heap H _ := hC
  refine lv_aload_n hx hb dX1_init_15 rfl (lv_at hl 0 rfl) ?_
  refine ck_new (ci := 3) (fs := [.null, .null, .null, .null, .null, .null, .null, .null, .null, .int (iI 0)]) (C := RX3) (T := TX3) (N := 10) hx hb hts inX3 tyX3 tyX3_ok hown (hts (.classLink RX1 18 RX3) (by decide +kernel)) (hts (.instantiable RX3 10) (by decide +kernel)) (hts (.initialized RX3) (by decide +kernel)) hK hC hA rfl bl3 (Nat.le_of_ble_eq_true rfl) (Nat.le_of_ble_eq_true rfl) dX1_init_16 (fun q H hC => ?_)
  refine lv_dup hx hb dX1_init_19 rfl ?_
  refine ck_go (n := 10) (cel := celSh cg) (st := z0) hC hA (va_runIN (As := []) (rest := [.ref q, .ref h0]) ⟨hx, hb, hml, hown, hts⟩ (c_X3_init l cg D H.size q) ⟨va_cnB 0 hts gX1_init_X3_init_n20 rfl rfl rfl (hN.2 _ (List.mem_of_getElem? (i := 2) rfl)) (hts (.initialized RX3) (by decide +kernel)) (by decide +kernel) ⟨Nat.le_of_ble_eq_true rfl, Nat.le_of_ble_eq_true rfl⟩, rfl, (hts (.instanceMethod yX3_init) (by decide +kernel))⟩ (ck_pre hK hN hO hC) rfl rfl hl.1 rfl (lv_room (Nat.le_of_ble_eq_true rfl)) dX1_init_20 ⟨Nat.le_of_ble_eq_true rfl, Nat.le_of_ble_eq_true rfl⟩) (fun a2 H locs ea2 hC => ?_)
  have hC : CW D ((h0, .inr (1, [.int (iI 0), .ref (a1 0), .null, .null])) :: (wl 3 (celSp cg) a1 z0 ++ wl 10 (celSh cg) a2 z0)) A s.heap H _ := hC
  refine ck_putF (ci := 1) (C := RX1) (T := TX1) (N := 4) (v := .ref q) hx hb hts inX1 tyX1 tyX1_ok nmX1 hown hK hC rfl 2 (by decide) (hts (.fieldLink RX1 21 "GainsReckoner$Ledger" "sheet" "LGainsReckoner$Sheet;") (by decide +kernel)) rfl rfl hin rfl rfl rfl (Nat.le_of_ble_eq_true rfl) dX1_init_23 (fun H locs hC => ?_)
  rw [← ea2] at hC
  have hC : CW D ((h0, .inr (1, [.int (iI 0), .ref (a1 0), .ref (a2 0), .null])) :: (wl 3 (celSp cg) a1 z0 ++ wl 10 (celSh cg) a2 z0)) A s.heap H _ := hC
  refine lv_aload_n hx hb dX1_init_26 rfl (lv_at hl 0 rfl) ?_
  refine ck_new (ci := 2) (fs := [.null, .null, .null, .null, .null, .null, .int (iI 0)]) (C := RX2) (T := TX2) (N := 7) hx hb hts inX2 tyX2 tyX2_ok hown (hts (.classLink RX1 25 RX2) (by decide +kernel)) (hts (.instantiable RX2 7) (by decide +kernel)) (hts (.initialized RX2) (by decide +kernel)) hK hC hA rfl bl2 (Nat.le_of_ble_eq_true rfl) (Nat.le_of_ble_eq_true rfl) dX1_init_27 (fun q H hC => ?_)
  refine lv_dup hx hb dX1_init_30 rfl ?_
  refine ck_go (n := 7) (cel := celMt cg) (st := z0) hC hA (va_runIN (As := []) (rest := [.ref q, .ref h0]) ⟨hx, hb, hml, hown, hts⟩ (c_X2_init l cg D H.size q) ⟨va_cnB 0 hts gX1_init_X2_init_n27 rfl rfl rfl (hN.2 _ (List.mem_of_getElem? (i := 3) rfl)) (hts (.initialized RX2) (by decide +kernel)) (by decide +kernel) ⟨Nat.le_of_ble_eq_true rfl, Nat.le_of_ble_eq_true rfl⟩, rfl, (hts (.instanceMethod yX2_init) (by decide +kernel))⟩ (ck_pre hK hN hO hC) rfl rfl hl.1 rfl (lv_room (Nat.le_of_ble_eq_true rfl)) dX1_init_31 ⟨Nat.le_of_ble_eq_true rfl, Nat.le_of_ble_eq_true rfl⟩) (fun a3 H locs ea3 hC => ?_)
  have hC : CW D ((h0, .inr (1, [.int (iI 0), .ref (a1 0), .ref (a2 0), .null])) :: ((wl 3 (celSp cg) a1 z0 ++ wl 10 (celSh cg) a2 z0) ++ wl 7 (celMt cg) a3 z0)) A s.heap H _ := hC
  refine ck_putF (ci := 1) (C := RX1) (T := TX1) (N := 4) (v := .ref q) hx hb hts inX1 tyX1 tyX1_ok nmX1 hown hK hC rfl 3 (by decide) (hts (.fieldLink RX1 28 "GainsReckoner$Ledger" "matched" "LGainsReckoner$Matches;") (by decide +kernel)) rfl rfl hin rfl rfl rfl (Nat.le_of_ble_eq_true rfl) dX1_init_34 (fun H locs hC => ?_)
  rw [← ea3] at hC
  have hC : CW D ((h0, .inr (1, [.int (iI 0), .ref (a1 0), .ref (a2 0), .ref (a3 0)])) :: ((wl 3 (celSp cg) a1 z0 ++ wl 10 (celSh cg) a2 z0) ++ wl 7 (celMt cg) a3 z0)) A s.heap H _ := hC
  refine lv_aload_n hx hb dX1_init_37 rfl (lv_at hl 0 rfl) ?_
  refine lv_iload_n hx hb dX1_init_38 rfl (lv_at hl 1 rfl) ?_
  refine ck_putF (ci := 1) (C := RX1) (T := TX1) (N := 4) (v := .int (iI v)) hx hb hts inX1 tyX1 tyX1_ok nmX1 hown hK hC rfl 0 (by decide) (hts (.fieldLink RX1 32 "GainsReckoner$Ledger" "share" "I") (by decide +kernel)) rfl rfl hin rfl rfl rfl (Nat.le_of_ble_eq_true rfl) dX1_init_39 (fun H locs hC => ?_)
  exact ck_ret (fun k => if k = 0 then h0 else if k < 4 then a1 (k - 1) else if k < 14 then a2 (k - 4) else a3 (k - 14)) hx hb hr hlocks hC rfl rfl dX1_init_42
def sX0 : Nat → Nat → Int := stC (stC (stC (stC z0 0 (fnU (fun _ => 0) 3 30)) 9 (fnU (fun _ => 0) 0 0)) 30 (fnU (fun _ => 0) 0 1)) 51 (fnU (fun _ => 0) 0 2)
theorem fn3 (cA : ClassId) (x y z : Nat) : vp_cell cA (3, .inr (.inr (.inr (.inr (va_up (va_up (va_up (fun _ => none) 0 (some x)) 1 (some y)) 2 (some z)))))) = vp_cell cA (3, .inr (.inr (.inr (.inr (fun j => if j = 0 then some x else if j = 1 then some y else some z))))) := by
  rw [vp_cell_q, vp_cell_q]
  unfold arrV
  congr 2
  funext j
  obtain ⟨j, hj⟩ := j
  rcases (show j = 0 ∨ j = 1 ∨ j = 2 by omega) with rfl | rfl | rfl <;> rfl
set_option maxHeartbeats 8000000 in
set_option maxRecDepth 100000 in
theorem c_X5_init (l : Launch) (cg : Nat → ClassId) (D : va_G) (sz h0 : Nat) : CK l yX5_init wsX5_init ({ frames := 3, cells := 72, slots := 3171, locals := 80 }) D cg sz h0 5 [.null, .null, .null, .int (iI 0)] 73 (celX cg) sX0 [] 72 3171 := by
  refine ck_open (cc := cX5_init) (maxL := 2) (by decide) rfl (Nat.le_of_ble_eq_true rfl) rfl ?_
  intro p e s m args below meth c A hx hb hml hr hown hts hlocks hin hK hN hO hA ls hl hC
  have hown : s.vm.findClass RX5 = some m.cls := hown
  have inX0 : ∀ w ∈ wsX00, w ∈ wsX5_init := fun w h => List.mem_cons_of_mem _ (List.mem_append_left _ (List.mem_append_left _ (List.mem_append_left _ (List.mem_append_left _ (List.mem_append_left _ (List.mem_append_right _ h))))))
  have inX5 : ∀ w ∈ wsX50, w ∈ wsX5_init := fun w h => List.mem_cons_of_mem _ (List.mem_append_left _ (List.mem_append_left _ (List.mem_append_left _ (List.mem_append_left _ (List.mem_append_right _ h)))))
  have inX1 : ∀ w ∈ wsX10, w ∈ wsX5_init := fun w h => List.mem_cons_of_mem _ (List.mem_append_left _ (List.mem_append_left _ (List.mem_append_left _ (List.mem_append_right _ h))))
  have hoi : Cond.code Lib.objectInit ⟨#[0xb1]⟩ 1 none ∈ wsX5_init := List.mem_cons_of_mem _ (List.mem_append_left _ (List.mem_append_left _ (List.mem_append_left _ (List.mem_append_left _ (List.mem_append_left _ (List.mem_append_left _ (List.mem_append_left _ (List.mem_of_getElem? (i := 2) rfl))))))))
  have hl : lv_has ls 2 [(0, .ref h0)] := hl
  refine lv_aload_n hx hb dX5_init_0 rfl (lv_at hl 0 rfl) ?_
  refine ck_obj hx hb (hml.trans hl.1.symm) hown (hts (.methodLink RX5 1 objectInit) (by decide +kernel)) (hts (.instanceMethod objectInit) (by decide +kernel)) (hts _ hoi) dX5_init_1 (Nat.le_of_ble_eq_true rfl) (Nat.le_of_ble_eq_true rfl) ?_
  refine lv_aload_n hx hb dX5_init_4 rfl (lv_at hl 0 rfl) ?_
  refine ck_new (ci := 0) (fs := [.null, .null, .null, .null, .null, .null, .int (iI 0)]) (C := RX0) (T := TX0) (N := 7) hx hb hts inX0 tyX0 tyX0_ok hown (hts (.classLink RX5 7 RX0) (by decide +kernel)) (hts (.instantiable RX0 7) (by decide +kernel)) (hts (.initialized RX0) (by decide +kernel)) hK hC hA rfl bl0 (Nat.le_of_ble_eq_true rfl) (Nat.le_of_ble_eq_true rfl) dX5_init_5 (fun q H hC => ?_)
  refine lv_dup hx hb dX5_init_8 rfl ?_
  refine ck_go (n := 7) (cel := celJo cg) (st := z0) hC hA (va_runIN (As := []) (rest := [.ref q, .ref h0]) ⟨hx, hb, hml, hown, hts⟩ (c_X0_init l cg D H.size q) ⟨va_cnB 0 hts gX5_init_X0_init_n9 rfl rfl rfl (hN.2 _ (List.mem_of_getElem? (i := 0) rfl)) (hts (.initialized RX0) (by decide +kernel)) (by decide +kernel) ⟨Nat.le_of_ble_eq_true rfl, Nat.le_of_ble_eq_true rfl⟩, rfl, (hts (.instanceMethod yX0_init) (by decide +kernel))⟩ (ck_pre hK hN hO hC) rfl rfl hl.1 rfl (lv_room (Nat.le_of_ble_eq_true rfl)) dX5_init_9 ⟨Nat.le_of_ble_eq_true rfl, Nat.le_of_ble_eq_true rfl⟩) (fun aj H locs eaj hC => ?_)
  have hC : CW D ((h0, .inr (5, [.null, .null, .null, .int (iI 0)])) :: wl 7 (celJo cg) aj z0) A s.heap H _ := hC
  refine ck_putF (ci := 5) (C := RX5) (T := TX5) (N := 4) (v := .ref q) hx hb hts inX5 tyX5 tyX5_ok nmX5 hown hK hC rfl 0 (by decide) (hts (.fieldLink RX5 10 "GainsReckoner" "journal" "LGainsReckoner$Journal;") (by decide +kernel)) rfl rfl hin rfl rfl rfl (Nat.le_of_ble_eq_true rfl) dX5_init_12 (fun H locs hC => ?_)
  rw [← eaj] at hC
  have hC : CW D ((h0, .inr (5, [.ref (aj 0), .null, .null, .int (iI 0)])) :: wl 7 (celJo cg) aj z0) A s.heap H _ := hC
  refine lv_aload_n hx hb dX5_init_15 rfl (lv_at hl 0 rfl) ?_
  refine lv_iconst (v := 3) hx hb dX5_init_16 rfl ?_
  refine ck_newq (N := 3) hx hb hown (hts (.classLink RX5 16 RX1) (by decide +kernel)) hO hK hC hA (by decide) rfl (Nat.le_of_ble_eq_true rfl) (Nat.le_of_ble_eq_true rfl) (Nat.le_of_ble_eq_true rfl) dX5_init_17 (fun q8 H hC => ?_)
  have hC : CW D ((h0, .inr (5, [.ref (aj 0), .null, .null, .int (iI 0)])) :: (wl 7 (celJo cg) aj z0 ++ [(q8, .inl (cg 3, 3, .inr (.inr (.inr (.inr (fun _ => none))))))])) A s.heap H _ := hC
  refine ck_putF (ci := 5) (C := RX5) (T := TX5) (N := 4) (v := .ref q8) hx hb hts inX5 tyX5 tyX5_ok nmX5 hown hK hC rfl 1 (by decide) (hts (.fieldLink RX5 18 "GainsReckoner" "ledgers" "[LGainsReckoner$Ledger;") (by decide +kernel)) rfl rfl hin rfl rfl rfl (Nat.le_of_ble_eq_true rfl) dX5_init_20 (fun H locs hC => ?_)
  have hC : CW D ((h0, .inr (5, [.ref (aj 0), .ref q8, .null, .int (iI 0)])) :: (wl 7 (celJo cg) aj z0 ++ [(q8, .inl (cg 3, 3, .inr (.inr (.inr (.inr (fun _ => none))))))])) A s.heap H _ := hC
  refine lv_iconst (v := 0) hx hb dX5_init_23 rfl ?_
  refine lv_istore_n (lv' := [(1, .int 0), (0, .ref h0)]) hx hb dX5_init_24 rfl hl (by decide) rfl (fun ls hl => ?_)
  refine lv_iload_n hx hb dX5_init_25 rfl (lv_at hl 0 rfl) ?_
  refine lv_iconst (v := 3) hx hb dX5_init_26 rfl ?_
  refine lv_icmp_ge (tgt := 50) hx hb dX5_init_27 (by decide) (fun c_27 => absurd c_27 (by decide)) (fun _ => ?_)
  refine lv_aload_n hx hb dX5_init_30 rfl (lv_at hl 1 rfl) ?_
  refine va_get (ci := 5) (C := RX5) (T := TX5) (N := 4) hx hb hts inX5 hown hK hC.1 0 rfl rfl 1 (by decide) (hts (.fieldLink RX5 18 "GainsReckoner" "ledgers" "[LGainsReckoner$Ledger;") (by decide +kernel)) (fun _ h9 => h9) rfl dX5_init_31 ?_
  refine lv_iload_n hx hb dX5_init_34 rfl (lv_at hl 0 rfl) ?_
  refine ck_new (ci := 1) (fs := [.int (iI 0), .null, .null, .null]) (C := RX1) (T := TX1) (N := 4) hx hb hts inX1 tyX1 tyX1_ok hown (hts (.classLink RX5 16 RX1) (by decide +kernel)) (hts (.instantiable RX1 4) (by decide +kernel)) (hts (.initialized RX1) (by decide +kernel)) hK hC hA rfl bl1 (Nat.le_of_ble_eq_true rfl) (Nat.le_of_ble_eq_true rfl) dX5_init_35 (fun q H hC => ?_)
  refine lv_dup hx hb dX5_init_38 rfl ?_
  refine lv_iload_n hx hb dX5_init_39 rfl (lv_at hl 0 rfl) ?_
  refine ck_go (n := 21) (cel := celL cg) (st := stC z0 0 (fnU (fun _ => 0) 0 0)) hC hA (va_runI (As := [.int (iI 0)]) (rest := [.ref q, .int 0, .ref q8]) ⟨hx, hb, hml, hown, hts⟩ (c_X1_init l cg D H.size q 0) (cwI 1 hts gX5_init_X1_init rfl rfl rfl (hts (.initialized RX1) (by decide +kernel)) (hts (.methodLink RX5 22 yX1_init) (by decide +kernel)) (hts (.instanceMethod yX1_init) (by decide +kernel)) rfl (by decide +kernel) ⟨Nat.le_of_ble_eq_true rfl, Nat.le_of_ble_eq_true rfl⟩) (ck_pre hK hN hO hC) rfl rfl hl.1 rfl (lv_room (Nat.le_of_ble_eq_true rfl)) dX5_init_40 ⟨Nat.le_of_ble_eq_true rfl, Nat.le_of_ble_eq_true rfl⟩) (fun a0 H locs ea0 hC => ?_)
  have hC : CW D ((h0, .inr (5, [.ref (aj 0), .ref q8, .null, .int (iI 0)])) :: ((wl 7 (celJo cg) aj z0 ++ [(q8, .inl (cg 3, 3, .inr (.inr (.inr (.inr (fun _ => none))))))]) ++ wl 21 (celL cg) a0 (stC z0 0 (fnU (fun _ => 0) 0 0)))) A s.heap H _ := hC
  rw [← ea0]
  refine va_astq (r := (RX1, TX1, 4)) hx hb hK hC.1 hC.2.1 hC.2.2 8 3 9 1 rfl rfl rfl rfl (by unfold vp_in; decide) dX5_init_43 (fun H locs hP hD hS => ?_)
  have hC : CW D ((h0, .inr (5, [.ref (aj 0), .ref q8, .null, .int (iI 0)])) :: ((wl 7 (celJo cg) aj z0 ++ [(q8, .inl (cg 3, 3, .inr (.inr (.inr (.inr (va_up (fun _ => none) 0 (some (a0 0))))))))]) ++ wl 21 (celL cg) a0 (stC z0 0 (fnU (fun _ => 0) 0 0)))) A s.heap H locs := ⟨hP, hD, hS⟩
  refine lv_iinc (v := 1) (lv' := [(1, .int 1), (0, .ref h0)]) hx hb dX5_init_44 hl (k := 0) rfl rfl (by decide) rfl (fun ls hl => ?_)
  refine lv_goto (tgt := 25) hx hb dX5_init_47 (by decide) ?_
  refine lv_iload_n hx hb dX5_init_25 rfl (lv_at hl 0 rfl) ?_
  refine lv_iconst (v := 3) hx hb dX5_init_26 rfl ?_
  refine lv_icmp_ge (tgt := 50) hx hb dX5_init_27 (by decide) (fun c_27 => absurd c_27 (by decide)) (fun _ => ?_)
  refine lv_aload_n hx hb dX5_init_30 rfl (lv_at hl 1 rfl) ?_
  refine va_get (ci := 5) (C := RX5) (T := TX5) (N := 4) hx hb hts inX5 hown hK hC.1 0 rfl rfl 1 (by decide) (hts (.fieldLink RX5 18 "GainsReckoner" "ledgers" "[LGainsReckoner$Ledger;") (by decide +kernel)) (fun _ h9 => h9) rfl dX5_init_31 ?_
  refine lv_iload_n hx hb dX5_init_34 rfl (lv_at hl 0 rfl) ?_
  refine ck_new (ci := 1) (fs := [.int (iI 0), .null, .null, .null]) (C := RX1) (T := TX1) (N := 4) hx hb hts inX1 tyX1 tyX1_ok hown (hts (.classLink RX5 16 RX1) (by decide +kernel)) (hts (.instantiable RX1 4) (by decide +kernel)) (hts (.initialized RX1) (by decide +kernel)) hK hC hA rfl bl1 (Nat.le_of_ble_eq_true rfl) (Nat.le_of_ble_eq_true rfl) dX5_init_35 (fun q H hC => ?_)
  refine lv_dup hx hb dX5_init_38 rfl ?_
  refine lv_iload_n hx hb dX5_init_39 rfl (lv_at hl 0 rfl) ?_
  refine ck_go (n := 21) (cel := celL cg) (st := stC z0 0 (fnU (fun _ => 0) 0 1)) hC hA (va_runI (As := [.int (iI 1)]) (rest := [.ref q, .int 1, .ref q8]) ⟨hx, hb, hml, hown, hts⟩ (c_X1_init l cg D H.size q 1) (cwI 1 hts gX5_init_X1_init rfl rfl rfl (hts (.initialized RX1) (by decide +kernel)) (hts (.methodLink RX5 22 yX1_init) (by decide +kernel)) (hts (.instanceMethod yX1_init) (by decide +kernel)) rfl (by decide +kernel) ⟨Nat.le_of_ble_eq_true rfl, Nat.le_of_ble_eq_true rfl⟩) (ck_pre hK hN hO hC) rfl rfl hl.1 rfl (lv_room (Nat.le_of_ble_eq_true rfl)) dX5_init_40 ⟨Nat.le_of_ble_eq_true rfl, Nat.le_of_ble_eq_true rfl⟩) (fun a1 H locs ea1 hC => ?_)
  have hC : CW D ((h0, .inr (5, [.ref (aj 0), .ref q8, .null, .int (iI 0)])) :: (((wl 7 (celJo cg) aj z0 ++ [(q8, .inl (cg 3, 3, .inr (.inr (.inr (.inr (va_up (fun _ => none) 0 (some (a0 0))))))))]) ++ wl 21 (celL cg) a0 (stC z0 0 (fnU (fun _ => 0) 0 0))) ++ wl 21 (celL cg) a1 (stC z0 0 (fnU (fun _ => 0) 0 1)))) A s.heap H _ := hC
  rw [← ea1]
  refine va_astq (r := (RX1, TX1, 4)) hx hb hK hC.1 hC.2.1 hC.2.2 8 3 30 1 rfl rfl rfl rfl (by unfold vp_in; decide) dX5_init_43 (fun H locs hP hD hS => ?_)
  have hC : CW D ((h0, .inr (5, [.ref (aj 0), .ref q8, .null, .int (iI 0)])) :: (((wl 7 (celJo cg) aj z0 ++ [(q8, .inl (cg 3, 3, .inr (.inr (.inr (.inr (va_up (va_up (fun _ => none) 0 (some (a0 0))) 1 (some (a1 0))))))))]) ++ wl 21 (celL cg) a0 (stC z0 0 (fnU (fun _ => 0) 0 0))) ++ wl 21 (celL cg) a1 (stC z0 0 (fnU (fun _ => 0) 0 1)))) A s.heap H locs := ⟨hP, hD, hS⟩
  refine lv_iinc (v := 2) (lv' := [(1, .int 2), (0, .ref h0)]) hx hb dX5_init_44 hl (k := 0) rfl rfl (by decide) rfl (fun ls hl => ?_)
  refine lv_goto (tgt := 25) hx hb dX5_init_47 (by decide) ?_
  refine lv_iload_n hx hb dX5_init_25 rfl (lv_at hl 0 rfl) ?_
  refine lv_iconst (v := 3) hx hb dX5_init_26 rfl ?_
  refine lv_icmp_ge (tgt := 50) hx hb dX5_init_27 (by decide) (fun c_27 => absurd c_27 (by decide)) (fun _ => ?_)
  refine lv_aload_n hx hb dX5_init_30 rfl (lv_at hl 1 rfl) ?_
  refine va_get (ci := 5) (C := RX5) (T := TX5) (N := 4) hx hb hts inX5 hown hK hC.1 0 rfl rfl 1 (by decide) (hts (.fieldLink RX5 18 "GainsReckoner" "ledgers" "[LGainsReckoner$Ledger;") (by decide +kernel)) (fun _ h9 => h9) rfl dX5_init_31 ?_
  refine lv_iload_n hx hb dX5_init_34 rfl (lv_at hl 0 rfl) ?_
  refine ck_new (ci := 1) (fs := [.int (iI 0), .null, .null, .null]) (C := RX1) (T := TX1) (N := 4) hx hb hts inX1 tyX1 tyX1_ok hown (hts (.classLink RX5 16 RX1) (by decide +kernel)) (hts (.instantiable RX1 4) (by decide +kernel)) (hts (.initialized RX1) (by decide +kernel)) hK hC hA rfl bl1 (Nat.le_of_ble_eq_true rfl) (Nat.le_of_ble_eq_true rfl) dX5_init_35 (fun q H hC => ?_)
  refine lv_dup hx hb dX5_init_38 rfl ?_
  refine lv_iload_n hx hb dX5_init_39 rfl (lv_at hl 0 rfl) ?_
  refine ck_go (n := 21) (cel := celL cg) (st := stC z0 0 (fnU (fun _ => 0) 0 2)) hC hA (va_runI (As := [.int (iI 2)]) (rest := [.ref q, .int 2, .ref q8]) ⟨hx, hb, hml, hown, hts⟩ (c_X1_init l cg D H.size q 2) (cwI 1 hts gX5_init_X1_init rfl rfl rfl (hts (.initialized RX1) (by decide +kernel)) (hts (.methodLink RX5 22 yX1_init) (by decide +kernel)) (hts (.instanceMethod yX1_init) (by decide +kernel)) rfl (by decide +kernel) ⟨Nat.le_of_ble_eq_true rfl, Nat.le_of_ble_eq_true rfl⟩) (ck_pre hK hN hO hC) rfl rfl hl.1 rfl (lv_room (Nat.le_of_ble_eq_true rfl)) dX5_init_40 ⟨Nat.le_of_ble_eq_true rfl, Nat.le_of_ble_eq_true rfl⟩) (fun a2 H locs ea2 hC => ?_)
  have hC : CW D ((h0, .inr (5, [.ref (aj 0), .ref q8, .null, .int (iI 0)])) :: ((((wl 7 (celJo cg) aj z0 ++ [(q8, .inl (cg 3, 3, .inr (.inr (.inr (.inr (va_up (va_up (fun _ => none) 0 (some (a0 0))) 1 (some (a1 0))))))))]) ++ wl 21 (celL cg) a0 (stC z0 0 (fnU (fun _ => 0) 0 0))) ++ wl 21 (celL cg) a1 (stC z0 0 (fnU (fun _ => 0) 0 1))) ++ wl 21 (celL cg) a2 (stC z0 0 (fnU (fun _ => 0) 0 2)))) A s.heap H _ := hC
  rw [← ea2]
  refine va_astq (r := (RX1, TX1, 4)) hx hb hK hC.1 hC.2.1 hC.2.2 8 3 51 1 rfl rfl rfl rfl (by unfold vp_in; decide) dX5_init_43 (fun H locs hP hD hS => ?_)
  have hC : CW D ((h0, .inr (5, [.ref (aj 0), .ref q8, .null, .int (iI 0)])) :: ((((wl 7 (celJo cg) aj z0 ++ [(q8, .inl (cg 3, 3, .inr (.inr (.inr (.inr (va_up (va_up (va_up (fun _ => none) 0 (some (a0 0))) 1 (some (a1 0))) 2 (some (a2 0))))))))]) ++ wl 21 (celL cg) a0 (stC z0 0 (fnU (fun _ => 0) 0 0))) ++ wl 21 (celL cg) a1 (stC z0 0 (fnU (fun _ => 0) 0 1))) ++ wl 21 (celL cg) a2 (stC z0 0 (fnU (fun _ => 0) 0 2)))) A s.heap H locs := ⟨hP, hD, hS⟩
  refine lv_iinc (v := 3) (lv' := [(1, .int 3), (0, .ref h0)]) hx hb dX5_init_44 hl (k := 0) rfl rfl (by decide) rfl (fun ls hl => ?_)
  refine lv_goto (tgt := 25) hx hb dX5_init_47 (by decide) ?_
  refine lv_iload_n hx hb dX5_init_25 rfl (lv_at hl 0 rfl) ?_
  refine lv_iconst (v := 3) hx hb dX5_init_26 rfl ?_
  refine lv_icmp_ge (tgt := 50) hx hb dX5_init_27 (by decide) (fun _ => ?_) (fun c_27 => absurd (by decide) c_27)
  refine lv_aload_n hx hb dX5_init_50 rfl (lv_at hl 1 rfl) ?_
  refine lv_iconst (v := 5) hx hb dX5_init_51 rfl ?_
  refine ck_newI (N := 5) hx hb (hts (.arrayClass .int) (by decide +kernel)) hK hC hA (by decide) rfl (Nat.le_of_ble_eq_true rfl) (Nat.le_of_ble_eq_true rfl) (Nat.le_of_ble_eq_true rfl) dX5_init_52 (fun q72 H hC => ?_)
  have hC : CW D ((h0, .inr (5, [.ref (aj 0), .ref q8, .null, .int (iI 0)])) :: (((((wl 7 (celJo cg) aj z0 ++ [(q8, .inl (cg 3, 3, .inr (.inr (.inr (.inr (va_up (va_up (va_up (fun _ => none) 0 (some (a0 0))) 1 (some (a1 0))) 2 (some (a2 0))))))))]) ++ wl 21 (celL cg) a0 (stC z0 0 (fnU (fun _ => 0) 0 0))) ++ wl 21 (celL cg) a1 (stC z0 0 (fnU (fun _ => 0) 0 1))) ++ wl 21 (celL cg) a2 (stC z0 0 (fnU (fun _ => 0) 0 2))) ++ [(q72, aI cg 5 (fun _ => 0))])) A s.heap H _ := hC
  refine ck_putF (ci := 5) (C := RX5) (T := TX5) (N := 4) (v := .ref q72) hx hb hts inX5 tyX5 tyX5_ok nmX5 hown hK hC rfl 2 (by decide) (hts (.fieldLink RX5 25 "GainsReckoner" "allowances" "[I") (by decide +kernel)) rfl rfl hin rfl rfl rfl (Nat.le_of_ble_eq_true rfl) dX5_init_54 (fun H locs hC => ?_)
  have hC : CW D ((h0, .inr (5, [.ref (aj 0), .ref q8, .ref q72, .int (iI 0)])) :: (((((wl 7 (celJo cg) aj z0 ++ [(q8, .inl (cg 3, 3, .inr (.inr (.inr (.inr (va_up (va_up (va_up (fun _ => none) 0 (some (a0 0))) 1 (some (a1 0))) 2 (some (a2 0))))))))]) ++ wl 21 (celL cg) a0 (stC z0 0 (fnU (fun _ => 0) 0 0))) ++ wl 21 (celL cg) a1 (stC z0 0 (fnU (fun _ => 0) 0 1))) ++ wl 21 (celL cg) a2 (stC z0 0 (fnU (fun _ => 0) 0 2))) ++ [(q72, aI cg 5 (fun _ => 0))])) A s.heap H _ := hC
  refine lv_aload_n hx hb dX5_init_57 rfl (lv_at hl 1 rfl) ?_
  refine lv_bipush (v := 30) hx hb dX5_init_58 (by decide +kernel) ?_
  refine ck_put (ci := 5) (C := RX5) (T := TX5) (N := 4) (v := .int 30) hx hb hts inX5 tyX5 tyX5_ok nmX5 hown hK hC rfl 3 (by decide) (hts (.fieldLink RX5 29 "GainsReckoner" "window" "I") (by decide +kernel)) rfl rfl rfl rfl (Nat.le_of_ble_eq_true rfl) dX5_init_60 (fun H locs hC => ?_)
  have hC : CW D ((h0, .inr (5, [.ref (aj 0), .ref q8, .ref q72, .int (iI 30)])) :: (((((wl 7 (celJo cg) aj z0 ++ [(q8, .inl (cg 3, 3, .inr (.inr (.inr (.inr (va_up (va_up (va_up (fun _ => none) 0 (some (a0 0))) 1 (some (a1 0))) 2 (some (a2 0))))))))]) ++ wl 21 (celL cg) a0 (stC z0 0 (fnU (fun _ => 0) 0 0))) ++ wl 21 (celL cg) a1 (stC z0 0 (fnU (fun _ => 0) 0 1))) ++ wl 21 (celL cg) a2 (stC z0 0 (fnU (fun _ => 0) 0 2))) ++ [(q72, aI cg 5 (fun _ => 0))])) A s.heap H _ := hC
  have h8 : va_at D vwCl (q8, .inl (cg 3, 3, .inr (.inr (.inr (.inr (fun j => if j = 0 then some (a0 0) else if j = 1 then some (a1 0) else some (a2 0))))))) H := by
    have h9 : va_at D vwCl (q8, .inl (cg 3, 3, .inr (.inr (.inr (.inr (va_up (va_up (va_up (fun _ => none) 0 (some (a0 0))) 1 (some (a1 0))) 2 (some (a2 0)))))))) H := hC.1 8 _ rfl
    show H[q8]? = some (vp_cell _ _)
    rw [← fn3]
    exact h9
  have hC : CW D ((h0, .inr (5, [.ref (aj 0), .ref q8, .ref q72, .int (iI 30)])) :: (((((wl 7 (celJo cg) aj z0 ++ [(q8, .inl (cg 3, 3, .inr (.inr (.inr (.inr (fun j => if j = 0 then some (a0 0) else if j = 1 then some (a1 0) else some (a2 0)))))))]) ++ wl 21 (celL cg) a0 (stC z0 0 (fnU (fun _ => 0) 0 0))) ++ wl 21 (celL cg) a1 (stC z0 0 (fnU (fun _ => 0) 0 1))) ++ wl 21 (celL cg) a2 (stC z0 0 (fnU (fun _ => 0) 0 2))) ++ [(q72, aI cg 5 (fun _ => 0))])) A s.heap H locs := ⟨hC.1.set hC.2.1 (p := 8) (a := q8) rfl h8 (fun _ _ => rfl), hC.2.1.set (p := 8) (a := q8) rfl, hC.2.2⟩
  exact ck_ret (fun k => if k = 0 then h0 else if k < 8 then aj (k - 1) else if k = 8 then q8 else if k < 30 then a0 (k - 9) else if k < 51 then a1 (k - 30) else if k < 72 then a2 (k - 51) else q72) hx hb hr hlocks hC rfl rfl dX5_init_63
