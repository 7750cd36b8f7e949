-- the law's methods: what they stand on
def LX (p : Program) (l : Launch) (s : State) (m : MethodId) (args : Array Value) (meth : Method) (c : Code) (cc : ByteArray) (mL : Nat) (ws : List Cond) (cg : Nat → ClassId) (D : va_G) (A : Nat → Prop) : Prop :=
  p.tables.exec = Jvm.exec ∧ c.code = cc ∧ c.maxLocals = mL ∧ s.vm.findClass RL = some m.cls ∧ (∀ w ∈ ws, w.before args s = true) ∧ meth.locks = false ∧ l.stackTraces = false ∧ va_K D vwCl (TY cg) s ∧ NW s ∧ xK s ∧ xZ A s s.heap ∧ xN s
def WK (l : Launch) (y : MethodName) (ws : List Cond) (rm : Room) (D : va_G) (cl : List vw_C) (tys : List (ClassId × FieldType)) (n : Nat) (cel : (Nat → Nat) → (Nat → Int) → Nat → va_E) (ad : Nat → Nat) (st : Nat → Nat → Int) (av : List Value) (post : Int → (Nat → Nat → Int) → Prop) (mc ms : Nat) : Prop :=
  Met l y ws rm (va_Pc av (mPW D cl tys n cel ad st)) (va_Qi (fun (r : Int32) (u : Nat → Nat → Int) => ∃ z : Int, r = iI z ∧ post z u) (mB D cl n cel ad) (wA n ad)) mc ms (wA n ad)
/-- a check by hand: it makes its own objects, answers 1, and changes nothing that was there -/
def ZP (D : va_G) (cg : Nat → ClassId) : State → Prop := fun U => va_K D vwCl (TY cg) U ∧ NW U ∧ xK U ∧ xZ (fun q => U.heap.size ≤ q) U U.heap ∧ xN U ∧ va_AO "GainsReckoner$Ledger" U
def ZM (l : Launch) (y : MethodName) (ws : List Cond) (rm : Room) (D : va_G) (cg : Nat → ClassId) (mc ms : Nat) : Prop :=
  Met l y ws rm (va_Pc [] (ZP D cg)) (va_Qi (fun (r : Int32) (_ : Unit) => r = iI 1) (fun _ _ => True) (fun _ => False)) mc ms (fun _ => False)
theorem ZP_blind {D : va_G} {cg : Nat → ClassId} : FrameBlind (va_Pc [] (ZP D cg)) := by
  intro a U g mk h
  obtain ⟨h0, h1, h2, h3, h4, h5, h6⟩ := h
  exact ⟨h0, va_K.moved (u := U) (U := U.calling g mk a) (Vm.Alike.refl U.vm) h1, NW.same (u := U) (U := U.calling g mk a) rfl h2, xK.same (u := U) (U := U.calling g mk a) rfl h3, xZ.moved (u := U) (U := U.calling g mk a) (Vm.Alike.refl U.vm) h4, xN.moved (u := U) (U := U.calling g mk a) (Vm.Alike.refl U.vm) h5, va_AO.moved (u := U) (U := U.calling g mk a) (Vm.Alike.refl U.vm) h6⟩
section LKT
variable {p : Program} {l : Launch} {e : Env} {R : Room} {s : State} {m : MethodId} {args : Array Value} {below : List Frame} {meth : Method} {c : Code} {H : Heap} {locs : List Loc} {cells slots : Nat} {Q : State → Prop}
variable {cc : ByteArray} {pc : Nat} {ls : Array Slot} {rest : List Value} {D : va_G} {cl : List vw_C} {A : Nat → Prop} {tys : List (ClassId × FieldType)} {H0 : Heap} {n : Nat} {cel : (Nat → Nat) → (Nat → Int) → Nat → va_E} {ad : Nat → Nat} {st : Nat → Nat → Int} {cg : Nat → ClassId}
theorem mw_goIs {mc ms : Nat} {st0 : List Value} {a : Array Value} {post : Int → (Nat → Nat → Int) → Prop} (hr : va_Run p l e R s m args below meth c H locs cells slots mc ms (F0 m pc ls st0) rest (va_Qi (fun (r : Int32) (u : Nat → Nat → Int) => ∃ z : Int, r = iI z ∧ post z u) (mB D cl n cel ad) (wA n ad) a) (wA n ad)) (hW : GW D cl n cel ad A H0 st H locs)
    (kk : ∀ (z : Int) (st1 : Nat → Nat → Int), post z st1 → ∀ (H1 : Heap) (locs1 : List Loc), GW D cl n cel ad A H0 st1 H1 locs1 → W p l e R s m args below meth c H1 locs1 (cells + mc) (slots + ms) Q (F0 m (pc + 3) ls (.int (iI z) :: rest))) : W p l e R s m args below meth c H locs cells slots Q (F0 m pc ls st0) := by
  refine va_calli hr hW.2.2 (fun q _ h => hW.all q h) hW.all (fun r u t H1 locs1 ht hvm hp hB hz hk hS => ?_)
  obtain ⟨z, rfl, hp⟩ := hp
  exact kk z u hp H1 locs1 (hW.behind ht hB hS)
theorem mw_preS {As : List Value} (hK : va_K D cl tys s) (hN : NW s) (hxK : xK s) (hxZ : xZ A s s.heap) (hxN : xN s) (hW : GW D cl n cel ad A s.heap st H locs) : PreS s H (va_Pc As (mPW D cl tys n cel ad st)) As := by
  obtain ⟨-, h2⟩ := mx_preS (As := As) hK hN hxK hxZ hW
  exact ⟨mPW_blind, fun U hU hWm => ⟨rfl, (h2 U hU hWm).2, hxN.moved hWm.alike⟩⟩
theorem mw_openN {y : MethodName} {ws ws' : List Cond} {rm : Room} {maxL : Nat} {ret : Option FieldType} {av : List Value} {Qc : Array Value → State → Outcome → State → Prop} {mc ms : Nat} {free : Addr → Prop} (hy : plainName y.cls = true) (hw : ws = Cond.code y cc maxL ret :: ws') (hlen : (lg_sl av).length ≤ maxL)
    (body : ∀ (p : Program) (e : Env) (s : State) (m : MethodId) (args : Array Value) (below : List Frame) (meth : Method) (c : Code), p.tables.exec = Jvm.exec → c.code = cc → c.maxLocals = maxL → meth.sig.returnType = ret → s.vm.findClass y.cls = some m.cls → (∀ w ∈ ws, w.before args s = true) → meth.locks = false → va_K D cl tys s → NW s → args = av.toArray → ∀ ls : Array Slot, lv_has ls maxL (lv_args 0 av) → GW D cl n cel ad (wA n ad) s.heap st s.heap [] → xK s → xZ (wA n ad) s s.heap → xN s → W p l e (headSpec ws rm).room s m args below meth c s.heap [] 0 0 (MQ below Qc args s mc ms free) (F0 m 0 ls [])) :
    Met l y ws rm (va_Pc av (mPW D cl tys n cel ad st)) Qc mc ms free := by
  refine Met.ofW (cc := cc) (maxL := maxL) (ret := ret) hy hw ?_
  intro p e s m args below meth c s₁ B hml hv
  obtain ⟨rfl, ⟨⟨hP, hK, hD, hN⟩, hxK, hxZ⟩, hxN⟩ := hv
  have hl := lv_entry av (n := maxL) hlen
  rw [lg_entry_eq]
  refine body p e s m _ below meth c B.exec B.bytes hml B.returns (findClass_of_methodNamed B.named) (atoms_spec B.pre) B.notSynchronized hK hN rfl _ hl ⟨hP, hD.weaken (fun k q hk _ => ?_), va_S.rf⟩ hxK hxZ hxN
  obtain ⟨h1, h2⟩ := wl_of hk
  exact ⟨k, h1, by rw [h2]⟩
theorem mw_retZ {z : Int} {post : Int → (Nat → Nat → Int) → Prop} (hexec : p.tables.exec = Jvm.exec) (hb : c.code = cc) (hr : meth.sig.returnType = some .boolean) (hlocks : meth.locks = false) (hW : GW D cl n cel ad (wA n ad) s.heap st H locs) (h01 : z = 0 ∨ z = 1) (hp : post z st) (hdg : decode cc pc = .ok (.ireturn, 1)) :
    W p l e R s m args below meth c H locs cells slots (MQ below (va_Qi (fun (r : Int32) (u : Nat → Nat → Int) => ∃ z : Int, r = iI z ∧ post z u) (mB D cl n cel ad) (wA n ad)) args s cells slots (wA n ad)) (F0 m pc ls [.int (iI z)]) :=
  W.zret (v := iI z) hexec hb hr (mk_nb h01) (fun t ht hWm => ⟨⟨iI z, st, rfl, ⟨z, rfl, hp⟩, by show va_P D cl (wl n cel ad st) t.heap; rw [ht]; exact hW.1⟩, hW.2.2.F ht⟩) hW.2.2.2.2 hdg hlocks
theorem z_open {y : MethodName} {ws ws' : List Cond} {rm : Room} {maxL mc ms : Nat} {ret : Option FieldType} (hy : plainName y.cls = true) (hw : ws = Cond.code y cc maxL ret :: ws')
    (body : ∀ (p : Program) (e : Env) (s : State) (m : MethodId) (args : Array Value) (below : List Frame) (meth : Method) (c : Code), p.tables.exec = Jvm.exec → c.code = cc → c.maxLocals = maxL → meth.sig.returnType = ret → s.vm.findClass y.cls = some m.cls → (∀ w ∈ ws, w.before args s = true) → meth.locks = false → va_K D vwCl (TY cg) s → NW s → ∀ ls : Array Slot, lv_has ls maxL [] → CW D [] (fun q => s.heap.size ≤ q) s.heap s.heap [] → xK s → xZ (fun q => s.heap.size ≤ q) s s.heap → xN s → va_AO "GainsReckoner$Ledger" s → W p l e (headSpec ws rm).room s m args below meth c s.heap [] 0 0 (MQ below (va_Qi (fun (r : Int32) (_ : Unit) => r = iI 1) (fun _ _ => True) (fun _ => False)) args s mc ms (fun _ => False)) (F0 m 0 ls [])) :
    ZM l y ws rm D cg mc ms := by
  refine Met.ofW (cc := cc) (maxL := maxL) (ret := ret) hy hw ?_
  intro p e s m args below meth c s₁ B hml hv
  obtain ⟨rfl, hK, hN, hxK, hxZ, hxN, hO⟩ := hv
  have hl := lv_entry ([] : List Value) (n := maxL) (Nat.zero_le _)
  rw [lg_entry_eq]
  exact body p e s m _ below meth c B.exec B.bytes hml B.returns (findClass_of_methodNamed B.named) (atoms_spec B.pre) B.notSynchronized hK hN _ hl ⟨fun k q h => by simp at h, ⟨fun i j p q h => by simp at h, fun k q h => by simp at h⟩, va_S.rf⟩ hxK hxZ hxN hO
theorem z_ret (hexec : p.tables.exec = Jvm.exec) (hb : c.code = cc) (hr : meth.sig.returnType = some .boolean) (hlocks : meth.locks = false) (hW : GW D cl n cel ad (fun q => s.heap.size ≤ q) s.heap st H locs) (hdg : decode cc pc = .ok (.ireturn, 1)) :
    W p l e R s m args below meth c H locs cells slots (MQ below (va_Qi (fun (r : Int32) (_ : Unit) => r = iI 1) (fun _ _ => True) (fun _ => False)) args s cells slots (fun _ => False)) (F0 m pc ls [.int (iI 1)]) := by
  refine va_forget (fun q hq => hW.2.2.2.2 q hq) ?_
  exact W.zret (v := iI 1) hexec hb hr (mk_nb (Or.inr rfl)) (fun t ht hWm => ⟨⟨iI 1, (), rfl, rfl, trivial⟩, by rw [ht]; exact hW.2.2.1, fun q h1 _ => by rw [ht]; exact hW.2.2.2.1 q h1 (Nat.not_le.mpr h1)⟩) (fun q hq => by simp at hq) hdg hlocks
theorem z_pre (hK : va_K D vwCl (TY cg) s) (hN : NW s) (hxK : xK s) (hxZ : xZ A s s.heap) (hxN : xN s) (hO : va_AO "GainsReckoner$Ledger" s) (hA : ∀ q, H.size ≤ q → A q) (hS : va_S A s.heap H locs) : PreS s H (va_Pc [] (ZP D cg)) [] :=
  ⟨ZP_blind, fun U hU hWm => ⟨rfl, va_K.moved hWm.alike hK, hN.warm hWm, hxK.warm hWm, by rw [hU]; exact ((hxZ.kept hS.2.1).narrow hA).moved hWm.alike, hxN.moved hWm.alike, va_AO.moved hWm.alike hO⟩⟩
end LKT
theorem XI_start {x b : Nat → Nat → Int} (b00 : b 0 0 = 0) (b11 : b 0 11 = 30) (b7 : ∀ v, b 7 v = 0) (b10 : ∀ y, b 10 y = 0) (x16 : x 1 6 = 0) (x03 : x 0 3 = 30) (x3 : ∀ k, x 3 k = 0) (x72 : ∀ y, x 72 y = 0) (xl : ∀ v, v < 3 → sub (embL v) x 0 0 = (v : Int) ∧ sub (embL v) x 1 2 = 0 ∧ sub (embL v) x 4 9 = 0 ∧ sub (embL v) x 14 6 = 0) : XI x b := by
  have hN : bN b = 0 := by unfold bN; rw [b00]; rfl
  have hM : ∀ v, bM b v = 0 := fun v => by unfold bM; rw [b7]; rfl
  refine ⟨⟨by rw [b00, hN]; rfl, ⟨by omega, fun k hk => absurd hk (by omega)⟩, fun v hv => ⟨by rw [b7, hM]; rfl, by rw [hM]; exact ⟨by omega, fun i hi => absurd hi (by omega)⟩⟩, by rw [b11]; decide, fun v hv d => ?_, fun y hy => by rw [b10]; decide⟩, ⟨by rw [x16, b00], by rw [x03, b11], fun k hk => absurd hk (by omega), fun v hv => ⟨by rw [(xl v hv).2.1, b7], fun i hi => absurd hi (by rw [hM]; omega)⟩, fun y hy => by rw [x72, b10]⟩, fun v hv => ?_, fun k _ _ => x3 k⟩
  · unfold bH hold wupto
    rw [hN]
    show (0 : Int) ≤ 0 - 0
    decide
  · obtain ⟨h1, h2, h3, h4⟩ := xl v hv
    have hR : lR (sub (embL v) x) = 0 := by unfold lR; rw [h3]; rfl
    unfold LG
    rw [hR]
    refine ⟨h1, ⟨fun r hr => absurd hr (by omega), fun k hk => absurd hk (by omega), fun r q _ hq => absurd hq (by omega)⟩, ⟨h3, fun r hr => absurd hr (by omega)⟩, ⟨h4, fun i y hy => ?_⟩, fun r hr => absurd hr (by omega)⟩
    have hy : ([] : List MTup)[i]? = some y := hy
    simp at hy
section LKR
variable {p : Program} {l : Launch} {e : Env} {R : Room} {s : State} {m : MethodId} {args : Array Value} {below : List Frame} {meth : Method} {c : Code} {H : Heap} {locs : List Loc} {cells slots : Nat} {Q : State → Prop}
variable {cc : ByteArray} {pc : Nat} {ls : Array Slot} {rest : List Value}
theorem mk_irem (hexec : p.tables.exec = Jvm.exec) (hb : c.code = cc) {x y : Int} (hdg : decode cc pc = .ok (.irem, 1)) (hx : 0 ≤ x ∧ x < 2147483648) (hy : 0 < y ∧ y < 2147483648) (k : W p l e R s m args below meth c H locs cells slots Q (F0 m (pc + 1) ls (.int (iI (x % y)) :: rest))) : W p l e R s m args below meth c H locs cells slots Q (F0 m pc ls (.int (iI y) :: .int (iI x) :: rest)) :=
  lv_irem hexec hb hdg (iI_ne0 hy) (by rw [iI_div hx hy, iI_mul, iI_sub, show x - x / y * y = x % y by rw [Int.emod_def, Int.mul_comm]]; exact k)
end LKR
theorem sh8 (x : Int32) : ∃ n : Nat, n < 16777216 ∧ (x.toUInt32 >>> ((iI 8).toUInt32 &&& Int32.toUInt32 31)).toInt32 = iI (n : Int) := by
  have e8 : (iI 8).toUInt32 &&& Int32.toUInt32 31 = 8 := by decide +kernel
  have hn : (x.toUInt32 >>> 8).toNat < 16777216 := by
    rw [UInt32.toNat_shiftRight]
    have h1 : x.toUInt32.toNat < 4294967296 := x.toUInt32.toNat_lt
    have h2 : (8 : UInt32).toNat % 32 = 8 := by decide
    rw [h2, Nat.shiftRight_eq_div_pow]
    omega
  refine ⟨(x.toUInt32 >>> 8).toNat, hn, ?_⟩
  rw [e8, ← Int32.toInt_inj, iI_toInt (by omega)]
  show (x.toUInt32 >>> 8).toBitVec.toInt = _
  rw [BitVec.toInt_eq_toNat_of_lt]
  · rfl
  · show 2 * (x.toUInt32 >>> 8).toNat < 2 ^ 32
    omega
theorem Met.mono9 {l : Launch} {y : MethodName} {ws : List Cond} {rm : Room} {Pc : Array Value → State → Prop} {Qc Qd : Array Value → State → Outcome → State → Prop} {mc ms : Nat} {free : Addr → Prop} (h : Met l y ws rm Pc Qc mc ms free) (hq : ∀ a s o t, Qc a s o t → Qd a s o t) : Met l y ws rm Pc Qd mc ms free := by
  intro p e h1 h2 h3 s m args below h4 h5 h6 h7
  obtain ⟨k, o, g1, g2, g3, g4, g5⟩ := h p e h1 h2 h3 s m args below h4 h5 h6 h7
  exact ⟨k, o, g1, g2, g3, hq _ _ _ _ g4, g5⟩
section WR3
variable {l : Launch} {y : MethodName} {ws : List Cond} {rm : Room} {D : va_G} {cl : List vw_C} {tys : List (ClassId × FieldType)} {n : Nat} {cel : (Nat → Nat) → (Nat → Int) → Nat → va_E} {ad : Nat → Nat} {st : Nat → Nat → Int} {av : List Value}
theorem WI.mono {P Q : Int → (Nat → Nat → Int) → Prop} (h : WI l y ws rm D cl tys n cel ad st av P) (hq : ∀ z u, P z u → Q z u) : WI l y ws rm D cl tys n cel ad st av Q :=
  Met.mono9 h fun _ _ _ _ ⟨⟨r, u, h1, ⟨z, h2, h3⟩, h4⟩, h5⟩ => ⟨⟨r, u, h1, ⟨z, h2, hq z u h3⟩, h4⟩, h5⟩
theorem MI.mono {P Q : Int → (Nat → Nat → Int) → Prop} (h : MI l y ws rm D cl tys n cel ad st av P) (hq : ∀ z u, P z u → Q z u) : MI l y ws rm D cl tys n cel ad st av Q :=
  Met.mono9 h fun _ _ _ _ ⟨⟨r, u, h1, ⟨z, h2, h3⟩, h4⟩, h5⟩ => ⟨⟨r, u, h1, ⟨z, h2, hq z u h3⟩, h4⟩, h5⟩
theorem MV.mono {P Q : (Nat → Nat → Int) → Prop} (h : MV l y ws rm D cl tys n cel ad st av P) (hq : ∀ u, P u → Q u) : MV l y ws rm D cl tys n cel ad st av Q :=
  Met.mono9 h fun _ _ _ _ ⟨⟨u, h1, h2, h4⟩, h5⟩ => ⟨⟨u, h1, hq u h2, h4⟩, h5⟩
end WR3
