-- the law's wrappers: world X and the cell that takes the answer
def celW (cg : Nat → ClassId) (ad : Nat → Nat) (f : Nat → Int) (k : Nat) : va_E := if k < 73 then celX cg ad f k else aJ cg 1 f
theorem EmbX (cg : Nat → ClassId) (ad : Nat → Nat) : Emb 73 (celX cg) ad 74 (celW cg) ad (fun k => k) := ⟨fun k hk => ⟨show k < 74 by omega, rfl⟩, fun _ _ _ _ h => h, fun k hk f => (if_pos hk).symm⟩
def xN (U : State) : Prop := va_Nc xE2 xE1 U ∧ va_Nc xE3 xE1 U ∧ va_Nc xE3 xE2 U
theorem xN.moved {u U : State} (hvm : u.vm.Alike U.vm) (h : xN u) : xN U := ⟨va_Nc.moved hvm h.1, va_Nc.moved hvm h.2.1, va_Nc.moved hvm h.2.2⟩
def mPW (D : va_G) (cl : List vw_C) (tys : List (ClassId × FieldType)) (n : Nat) (cel : (Nat → Nat) → (Nat → Int) → Nat → va_E) (ad : Nat → Nat) (st : Nat → Nat → Int) : State → Prop :=
  fun U => mPX D cl tys n cel ad st U ∧ xN U
theorem mPW_blind {D : va_G} {cl : List vw_C} {tys : List (ClassId × FieldType)} {n : Nat} {cel : (Nat → Nat) → (Nat → Int) → Nat → va_E} {ad : Nat → Nat} {st : Nat → Nat → Int} {av : List Value} : FrameBlind (va_Pc av (mPW D cl tys n cel ad st)) := by
  intro a U g mk h
  obtain ⟨h0, h1, h2⟩ := h
  exact ⟨h0, (mPX_blind (av := av) a U g mk ⟨h0, h1⟩).2, xN.moved (u := U) (U := U.calling g mk a) (Vm.Alike.refl U.vm) h2⟩
def WI (l : Launch) (y : MethodName) (ws : List Cond) (rm : Room) (D : va_G) (cl : List vw_C) (tys : List (ClassId × FieldType)) (n : Nat) (cel : (Nat → Nat) → (Nat → Int) → Nat → va_E) (ad : Nat → Nat) (st : Nat → Nat → Int) (av : List Value) (post : Int → (Nat → Nat → Int) → Prop) : Prop :=
  Met l y ws rm (va_Pc av (mPW D cl tys n cel ad st)) (va_Qi (fun (r : Int32) (u : Nat → Nat → Int) => ∃ z : Int, r = iI z ∧ post z u) (mB D cl n cel ad) (wA n ad)) 1 6 (wA n ad)
theorem met_of_vx {l : Launch} {y : MethodName} {ws : List Cond} {rm : Room} {Pc : Array Value → State → Prop} {Qc : Array Value → State → Outcome → State → Prop} {mc ms : Nat} {free : Addr → Prop} (h : vx_Met l y ws rm Pc Qc (fun _ _ _ => False) mc ms free) : Met l y ws rm Pc Qc mc ms free := by
  intro p e h1 h2 h3 s m args below h4 h5 h6 h7
  obtain ⟨k, o, g1, g2, g3, g4⟩ := h p e h1 h2 h3 s m args below h4 h5 h6 h7
  refine ⟨k, o, g1, g2, g3, ?_⟩
  rcases g4 with g4 | ⟨q, -, E, ce, L, hx, -⟩
  · exact g4
  · exact hx.elim
section WR
variable {p : Program} {l : Launch} {e : Env} {R : Room} {s : State} {m : MethodId} {args : Array Value} {below : List Frame} {meth : Method} {c : Code} {H : Heap} {locs : List Loc} {cells slots : Nat} {Q : State → Prop}
variable {cc : ByteArray} {pc : Nat} {ls : Array Slot} {rest : List Value} {D : va_G} {cl : List vw_C} {A : Nat → Prop} {tys : List (ClassId × FieldType)} {H0 : Heap} {n n' : Nat} {cel cel' : (Nat → Nat) → (Nat → Int) → Nat → va_E} {ad ad' : Nat → Nat} {em : Nat → Nat} {st : Nat → Nat → Int}
theorem mw_open {y : MethodName} {ws ws' : List Cond} {rm : Room} {maxL : Nat} {ret : Option FieldType} {hh : List (Nat × Nat × Nat × Nat)} {av : List Value} {Qc : Array Value → State → Outcome → State → Prop} {mc ms : Nat} {free : Addr → Prop} (hy : plainName y.cls = true) (hw : ws = Cond.codeWith y cc maxL ret hh :: ws') (hlen : (lg_sl av).length ≤ maxL)
    (body : ∀ (p : Program) (e : Env) (s : State) (m : MethodId) (args : Array Value) (below : List Frame) (meth : Method) (c : Code), p.tables.exec = Jvm.exec → c.code = cc → c.maxLocals = maxL → meth.sig.returnType = ret → s.vm.findClass y.cls = some m.cls → (∀ w ∈ ws, w.before args s = true) → meth.locks = false → va_K D cl tys s → NW s → args = av.toArray → ∀ ls : Array Slot, lv_has ls maxL (lv_args 0 av) → GW D cl n cel ad (wA n ad) s.heap st s.heap [] → xK s → xZ (wA n ad) s s.heap → xN s → c.exceptionTable.toList = tableOf hh → W p l e (headSpec ws rm).room s m args below meth c s.heap [] 0 0 (MQ below Qc args s mc ms free) (F0 m 0 ls [])) :
    Met l y ws rm (va_Pc av (mPW D cl tys n cel ad st)) Qc mc ms free := by
  refine met_of_vx (vx_ofWH (cc := cc) (maxL := maxL) (ret := ret) (hh := hh) hy hw ?_)
  intro p e s m args below meth c s₁ B hml hv
  obtain ⟨rfl, ⟨⟨hP, hK, hD, hN⟩, hxK, hxZ⟩, hxN⟩ := hv
  have hl := lv_entry av (n := maxL) hlen
  rw [lg_entry_eq]
  refine vx_ret (body p e s m _ below meth c B.exec B.bytes hml B.returns (findClass_of_methodNamed B.named) (atoms_spec B.pre) B.notSynchronized hK hN rfl _ hl ⟨hP, hD.weaken (fun k q hk _ => ?_), va_S.rf⟩ hxK hxZ hxN (vx_table (x := y) B (atoms_spec (ws := ws) B.pre _ (by rw [hw]; exact List.mem_cons_self))))
  obtain ⟨h1, h2⟩ := wl_of hk
  exact ⟨k, h1, by rw [h2]⟩
theorem mw_retI {z : Int} {post : Int → (Nat → Nat → Int) → Prop} (hexec : p.tables.exec = Jvm.exec) (hb : c.code = cc) (hr : meth.sig.returnType = some .int) (hlocks : meth.locks = false) (hW : GW D cl n cel ad (wA n ad) s.heap st H locs) (hp : post z st) (hdg : decode cc pc = .ok (.ireturn, 1)) :
    W p l e R s m args below meth c H locs cells slots (MQ below (va_Qi (fun (r : Int32) (u : Nat → Nat → Int) => ∃ z : Int, r = iI z ∧ post z u) (mB D cl n cel ad) (wA n ad)) args s cells slots (wA n ad)) (F0 m pc ls [.int (iI z)]) :=
  W.iret (v := iI z) hexec hb hr (fun t ht hWm => ⟨⟨iI z, st, rfl, ⟨z, rfl, hp⟩, by show va_P D cl (wl n cel ad st) t.heap; rw [ht]; exact hW.1⟩, hW.2.2.F ht⟩) hW.2.2.2.2 hdg hlocks
/-- a call that throws, in a world around the callee's -/
theorem mw_go {st0 : List Value} {a : Array Value} {E0 : String} (hE : Emb n cel ad n' cel' ad' em) (hr : vx_Run p l e R s m args below meth c H locs cells slots 1 6 (F0 m pc ls st0) rest (xQ0 a) (xC D cl n cel ad (sub em st) E0) (wA n ad)) (hW : GW D cl n' cel' ad' A H0 st H locs)
    (kx : ∀ (ce : Cell) (q9 : Addr) (H1 : Heap) (locs1 : List Loc), GW D cl n' cel' ad' A H0 st H1 locs1 → H1[q9]? = some ce → ce.vm = .none → s.vm.findClass E0 = some ce.cls → vx_W p l e R s m args below meth c H1 locs1 (cells + 1) (slots + 6) Q (F0 m pc ls rest) q9) : W p l e R s m args below meth c H locs cells slots Q (F0 m pc ls st0) :=
  mx_go hr (hW.emb hE) fun ce q9 H1 locs1 hW1 hk h1 h2 h3 => kx ce q9 H1 locs1 (by
    have h4 := hW.behindE (t := { s with heap := H1 }) hE rfl hW1.1 hk hW1.2.2
    rw [up_self hE.2.1] at h4
    exact h4) h1 h2 h3
theorem mw_catch {own name E0 : String} {ce : Cell} {q9 : Addr} {hh : List (Nat × Nat × Nat × Nat)} {h9 : Nat} (hown : s.vm.findClass own = some m.cls) (htab : c.exceptionTable.toList = tableOf hh) (pre : List ExceptionTableEntry) (x : ExceptionTableEntry) (suf : List ExceptionTableEntry) (hsplit : tableOf hh = pre ++ x :: suf)
    (hpass : ∀ z ∈ pre, covers z pc = false ∨ (z.catchType ≠ 0 ∧ ∃ nm : String, (Cond.classLink own z.catchType nm).before args s = true ∧ va_Nc E0 nm s)) (hx : covers x pc = true) (h0 : x.catchType ≠ 0)
    (hlink : (Cond.classLink own x.catchType name).before args s = true) (hcast : (Cond.castable E0 name).before args s = true) (hcell : H[q9]? = some ce) (hv : ce.vm = .none) (hcl : s.vm.findClass E0 = some ce.cls) (hpc : x.handlerPc = h9)
    (kk : W p l e R s m args below meth c H locs cells slots Q (F0 m h9 ls [.ref q9])) : vx_W p l e R s m args below meth c H locs cells slots Q (F0 m pc ls rest) q9 :=
  vx_catch hown pre x suf (htab.trans hsplit) hpass hx h0 hlink hcast hcell hv hcl (by rw [hpc]; exact kk)
end WR
