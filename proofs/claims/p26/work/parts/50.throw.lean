-- the class throws
def xNm : List String := ["java/lang/RuntimeException", "java/lang/Exception"]
def xE1 : String := "java/lang/IndexOutOfBoundsException"
def xE2 : String := "java/lang/IllegalArgumentException"
def xE3 : String := "java/lang/IllegalStateException"
def xB : List Cond := [.declares (Bundle.initS "java/lang/RuntimeException"), .declares (Bundle.initS "java/lang/Exception"), .declares (Bundle.initS Bundle.tN), .castable xE1 xE1, .castable xE2 xE2, .castable xE3 xE3]
theorem xb1 : ∀ w ∈ (vx_atS RX5 92 xE1 xNm).filter (fun w => !goodWord w), w ∈ xB := by decide +kernel
theorem xb2 : ∀ w ∈ (vx_atS RX5 60 xE2 xNm).filter (fun w => !goodWord w), w ∈ xB := by decide +kernel
theorem xb3 : ∀ w ∈ (vx_atS RX5 81 xE3 xNm).filter (fun w => !goodWord w), w ∈ xB := by decide +kernel
theorem xo1 : ∀ w ∈ Cond.classLink RX5 88 xE1 :: Cond.initialized xE1 :: vx_atS RX5 92 xE1 xNm, vx_ot w = true := by decide +kernel
theorem xo2 : ∀ w ∈ Cond.classLink RX5 56 xE2 :: Cond.initialized xE2 :: vx_atS RX5 60 xE2 xNm, vx_ot w = true := by decide +kernel
theorem xo3 : ∀ w ∈ Cond.classLink RX5 77 xE3 :: Cond.initialized xE3 :: vx_atS RX5 81 xE3 xNm, vx_ot w = true := by decide +kernel
def xS : List (Nat × String) := [(117, "the window is out of range"), (200, "there is no such share"), (202, "there is no such day"), (204, "there is no such match"), (207, "60 trades were entered"), (209, "there is no such year"), (211, "the count is out of range"), (214, "the amount of money is out of range"), (222, "the holding would be below 0 at the end of some day"), (58, "the factor is out of range"), (79, "no further split of the share, or none on that day"), (90, "there was no such trade"), (97, "the trade was cancelled")]
def xK (U : State) : Prop := (∀ w ∈ xB, w.before #[] U = true) ∧ ∀ q ∈ xS, ∃ sa, vk_R RX5 q.1 q.2 sa U
def xZ (A : Nat → Prop) (U : State) (H : Heap) : Prop := vx_Zq Bundle.tN "UNASSIGNED_STACK" Bundle.steD A U H ∧ vx_Zq Bundle.tN "SUPPRESSED_SENTINEL" Bundle.listD A U H
theorem xK.warm {s U : State} (hW : s.WarmedH U.vm) (h : xK s) : xK U := by
  refine ⟨fun w hw => ?_, fun q hq => ?_⟩
  · have h1 := h.1 w hw
    simp only [xB, List.mem_cons, List.not_mem_nil, or_false] at hw
    rcases hw with rfl | rfl | rfl | rfl | rfl | rfl
    · exact va_tabs rfl (rfl : (s.setVm U.vm).vm = U.vm) (by rw [Cond.declares_setVm hW.alike]; exact h1)
    · exact va_tabs rfl (rfl : (s.setVm U.vm).vm = U.vm) (by rw [Cond.declares_setVm hW.alike]; exact h1)
    · exact va_tabs rfl (rfl : (s.setVm U.vm).vm = U.vm) (by rw [Cond.declares_setVm hW.alike]; exact h1)
    · exact va_tabs rfl (rfl : (s.setVm U.vm).vm = U.vm) (by rw [Cond.castable_setVm hW.alike]; exact h1)
    · exact va_tabs rfl (rfl : (s.setVm U.vm).vm = U.vm) (by rw [Cond.castable_setVm hW.alike]; exact h1)
    · exact va_tabs rfl (rfl : (s.setVm U.vm).vm = U.vm) (by rw [Cond.castable_setVm hW.alike]; exact h1)
  · obtain ⟨sa, h1⟩ := h.2 q hq
    exact ⟨sa, vk_R.warm hW h1⟩
theorem xK.same {u U : State} (hv : u.vm = U.vm) (h : xK u) : xK U := by
  refine ⟨fun w hw => ?_, fun q hq => ?_⟩
  · have h1 := h.1 w hw
    simp only [xB, List.mem_cons, List.not_mem_nil, or_false] at hw
    rcases hw with rfl | rfl | rfl | rfl | rfl | rfl <;> exact va_tabs rfl hv h1
  · obtain ⟨sa, h1⟩ := h.2 q hq
    exact ⟨sa, vk_R.same hv.symm h1⟩
theorem xK.use {args : Array Value} {s : State} (h : xK s) : ∀ w ∈ xB, w.before args s = true := by
  intro w hw
  have h1 := h.1 w hw
  simp only [xB, List.mem_cons, List.not_mem_nil, or_false] at hw
  rcases hw with rfl | rfl | rfl | rfl | rfl | rfl <;> exact va_tabs rfl rfl h1
theorem xZ.moved {A : Nat → Prop} {u U : State} {H : Heap} (hvm : u.vm.Alike U.vm) (h : xZ A u H) : xZ A U H := ⟨vx_Zq.moved hvm h.1, vx_Zq.moved hvm h.2⟩
theorem xZ.kept {A : Nat → Prop} {U : State} {H H1 : Heap} (h : xZ A U H) (hq : ∀ a : Nat, a < H.size → ¬ A a → H1[a]? = H[a]?) : xZ A U H1 := ⟨vx_Zq.kept h.1 hq, vx_Zq.kept h.2 hq⟩
theorem xZ.narrow {A B : Nat → Prop} {U : State} {H : Heap} (h : xZ A U H) (hAB : ∀ q, B q → A q) : xZ B U H := ⟨vx_Zq.narrow h.1 hAB, vx_Zq.narrow h.2 hAB⟩
def mPX (D : va_G) (cl : List vw_C) (tys : List (ClassId × FieldType)) (n : Nat) (cel : (Nat → Nat) → (Nat → Int) → Nat → va_E) (ad : Nat → Nat) (st : Nat → Nat → Int) : State → Prop :=
  fun U => mP D cl tys n cel ad st U ∧ xK U ∧ xZ (wA n ad) U U.heap
theorem mPX_blind {D : va_G} {cl : List vw_C} {tys : List (ClassId × FieldType)} {n : Nat} {cel : (Nat → Nat) → (Nat → Int) → Nat → va_E} {ad : Nat → Nat} {st : Nat → Nat → Int} {av : List Value} : FrameBlind (va_Pc av (mPX D cl tys n cel ad st)) := by
  intro a U g mk h
  obtain ⟨h0, h1, h2, h3⟩ := h
  exact ⟨h0, (mP_blind (av := av) a U g mk ⟨h0, h1⟩).2, xK.same (u := U) (U := U.calling g mk a) rfl h2, xZ.moved (u := U) (U := U.calling g mk a) (Vm.Alike.refl U.vm) h3⟩
/-- it throws E0, and nothing has changed -/
def xC (D : va_G) (cl : List vw_C) (n : Nat) (cel : (Nat → Nat) → (Nat → Int) → Nat → va_E) (ad : Nat → Nat) (st : Nat → Nat → Int) (E0 : String) : String → State → State → Prop := fun E s t => E = E0 ∧ va_P D cl (wl n cel ad st) t.heap ∧ va_F (wA n ad) s t
def xQ0 : Array Value → State → Outcome → State → Prop := fun _ _ _ _ => False
def TX (l : Launch) (y : MethodName) (ws : List Cond) (rm : Room) (D : va_G) (cl : List vw_C) (tys : List (ClassId × FieldType)) (n : Nat) (cel : (Nat → Nat) → (Nat → Int) → Nat → va_E) (ad : Nat → Nat) (st : Nat → Nat → Int) (av : List Value) (E0 : String) : Prop :=
  vx_Met l y ws rm (va_Pc av (mPX D cl tys n cel ad st)) xQ0 (xC D cl n cel ad st E0) 1 6 (wA n ad)
section XT
variable {p : Program} {l : Launch} {e : Env} {R : Room} {s : State} {m : MethodId} {args : Array Value} {below : List Frame} {meth : Method} {c : Code} {H : Heap} {locs : List Loc} {cells slots : Nat} {Q : State → Prop}
variable {cc : ByteArray} {pc : Nat} {ls : Array Slot} {rest : List Value} {D : va_G} {cl : List vw_C} {A : Nat → Prop} {tys : List (ClassId × FieldType)} {H0 : Heap} {n : Nat} {cel : (Nat → Nat) → (Nat → Int) → Nat → va_E} {ad : Nat → Nat} {st : Nat → Nat → Int}
theorem mx_open {y : MethodName} {ws ws' : List Cond} {rm : Room} {maxL : Nat} {ret : Option FieldType} {av : List Value} {Qc : Array Value → State → Outcome → State → Prop} {XC : String → State → State → Prop} {mc ms : Nat} {free : Addr → Prop} (hy : plainName y.cls = true) (hw : ws = Cond.code y cc maxL ret :: ws') (hlen : (lg_sl av).length ≤ maxL)
    (body : ∀ (p : Program) (e : Env) (s : State) (m : MethodId) (args : Array Value) (below : List Frame) (meth : Method) (c : Code), p.tables.exec = Jvm.exec → c.code = cc → c.maxLocals = maxL → meth.sig.returnType = ret → s.vm.findClass y.cls = some m.cls → (∀ w ∈ ws, w.before args s = true) → meth.locks = false → va_K D cl tys s → NW s → args = av.toArray → ∀ ls : Array Slot, lv_has ls maxL (lv_args 0 av) → GW D cl n cel ad (wA n ad) s.heap st s.heap [] → xK s → xZ (wA n ad) s s.heap → (∀ x ∈ c.exceptionTable.toList, False) → W p l e (headSpec ws rm).room s m args below meth c s.heap [] 0 0 (vx_MQ below Qc XC args s mc ms free) (F0 m 0 ls [])) :
    vx_Met l y ws rm (va_Pc av (mPX D cl tys n cel ad st)) Qc XC mc ms free := by
  refine vx_ofW (cc := cc) (maxL := maxL) (ret := ret) hy hw ?_
  intro p e s m args below meth c s₁ B hml ht hv
  obtain ⟨rfl, ⟨hP, hK, hD, hN⟩, hxK, hxZ⟩ := hv
  have hl := lv_entry av (n := maxL) hlen
  rw [lg_entry_eq]
  refine body p e s m _ below meth c B.exec B.bytes hml B.returns (findClass_of_methodNamed B.named) (atoms_spec B.pre) B.notSynchronized hK hN rfl _ hl ⟨hP, hD.weaken (fun k q hk _ => ?_), va_S.rf⟩ hxK hxZ ht
  obtain ⟨h1, h2⟩ := wl_of hk
  exact ⟨k, h1, by rw [h2]⟩
theorem mx_preV {As : List Value} {C : String} (hK : va_K D cl tys s) (hN : NW s) (hxK : xK s) (hxZ : xZ A s s.heap) (hW : GW D cl n cel ad A s.heap st H locs) (k : Nat) (hk : k < n) {ci : Nat} {fs : List Value} {q : vw_C} (hc : cel ad (st k) k = .inr (ci, fs)) (hcl : cl[ci]? = some q) (hq : q.1 = C) : PreV s H C (ad k) (va_Pc (.ref (ad k) :: As) (mPX D cl tys n cel ad st)) As := by
  obtain ⟨-, h1, h2⟩ := mk_preV (As := As) hK hN hW k hk hc hcl hq
  exact ⟨mPX_blind, h1, fun U hU hWm => ⟨rfl, (h2 U hU hWm).2, hxK.warm hWm, by rw [hU]; exact ((hxZ.kept hW.2.2.2.1).narrow (B := wA n ad) hW.all).moved hWm.alike⟩⟩
theorem mx_preS {As : List Value} (hK : va_K D cl tys s) (hN : NW s) (hxK : xK s) (hxZ : xZ A s s.heap) (hW : GW D cl n cel ad A s.heap st H locs) : PreS s H (va_Pc As (mPX D cl tys n cel ad st)) As := by
  obtain ⟨-, h2⟩ := mk_preS (As := As) hK hN hW
  exact ⟨mPX_blind, fun U hU hWm => ⟨rfl, (h2 U hU hWm).2, hxK.warm hWm, by rw [hU]; exact ((hxZ.kept hW.2.2.2.1).narrow (B := wA n ad) hW.all).moved hWm.alike⟩⟩
theorem xC_at {E0 : String} (hW : GW D cl n cel ad (wA n ad) s.heap st H locs) {t : State} (h1 : H.size ≤ t.heap.size) (h2 : ∀ q : Nat, q < H.size → t.heap[q]? = H[q]?) : xC D cl n cel ad st E0 E0 s t := by
  refine ⟨rfl, fun k q hk => ?_, Nat.le_trans hW.2.2.1 h1, fun q a b => ?_⟩
  · have h3 := hW.1 k q hk
    exact h3.kept (h2 q.1 h3.lt)
  · rw [h2 q (Nat.lt_of_lt_of_le a hW.2.2.1)]; exact hW.2.2.2.1 q a b
/-- 'throw new E("text")' -/
theorem mx_throw {Qc : Array Value → State → Outcome → State → Prop} {E0 text : String} {ik is ic : Nat} (hx : p.tables.exec = Jvm.exec) (hb : c.code = cc) (hl : l.stackTraces = false) (hown : s.vm.findClass RX5 = some m.cls) (hfit : Bundle.fit E0 = true) (hts1 : (Cond.classLink RX5 ik E0).before args s = true) (hts2 : (Cond.initialized E0).before args s = true)
    (hgd : ∀ w ∈ (vx_atS RX5 ic E0 xNm).filter goodWord, w.before args s = true) (hbd : ∀ w ∈ (vx_atS RX5 ic E0 xNm).filter (fun w => !goodWord w), w ∈ xB) (hgood : ∀ w ∈ Cond.classLink RX5 ik E0 :: Cond.initialized E0 :: vx_atS RX5 ic E0 xNm, vx_ot w = true)
    (hxK : xK s) (hxZ : xZ (wA n ad) s s.heap) (hs9 : (is, text) ∈ xS) (hml : c.maxLocals = ls.size) (ht : ∀ x ∈ c.exceptionTable.toList, False) (hlocks : meth.locks = false) (hW : GW D cl n cel ad (wA n ad) s.heap st H locs)
    (d0 : decode cc pc = .ok (.new ik, 3)) (d3 : decode cc (pc + 3) = .ok (.dup, 1)) (d4 : decode cc (pc + 4) = .ok (.ldc is, 2)) (d6 : decode cc (pc + 6) = .ok (.invokespecial ic, 3)) (d9 : decode cc (pc + 9) = .ok (.athrow, 1))
    (hRf : 6 ≤ R.frames) (hRl : (rest.map fun v => v.category).sum + 82 ≤ R.locals) (hRc : 1 ≤ R.cells) (hRs : 6 ≤ R.slots) :
    W p l e R s m args below meth c H locs 0 0 (vx_MQ below Qc (xC D cl n cel ad st E0) args s 1 6 (wA n ad)) (F0 m pc ls rest) := by
  obtain ⟨sa, hstr⟩ := hxK.2 _ hs9
  exact vx_throwS (names := xNm) hx hb hl hown hfit (by decide) hts1 hts2 hstr (vx_hat hgd hbd hxK.use) hgood hxZ.1 hxZ.2 hW.2.2 hml.symm d0 d3 d4 d6 d9 (fun x hx9 => (ht x hx9).elim) hRf hRl (by omega) (by omega) hlocks (fun t _ h1 h2 => xC_at hW h1 h2) hW.2.2.2.2 (Nat.le_refl _) (Nat.le_refl _)
/-- a call that throws -/
theorem mx_go {st0 : List Value} {a : Array Value} {E0 : String} (hr : vx_Run p l e R s m args below meth c H locs cells slots 1 6 (F0 m pc ls st0) rest (xQ0 a) (xC D cl n cel ad st E0) (wA n ad)) (hW : GW D cl n cel ad A H0 st H locs)
    (kx : ∀ (ce : Cell) (q9 : Addr) (H1 : Heap) (locs1 : List Loc), GW D cl n cel ad A H0 st H1 locs1 → (∀ q : Nat, q < H.size → ¬ wA n ad q → H1[q]? = H[q]?) → H1[q9]? = some ce → ce.vm = .none → s.vm.findClass E0 = some ce.cls → vx_W p l e R s m args below meth c H1 locs1 (cells + 1) (slots + 6) Q (F0 m pc ls rest) q9) : W p l e R s m args below meth c H locs cells slots Q (F0 m pc ls st0) := by
  intro T hT X
  rcases hr T hT X with ⟨v, st₀, t, T', L, h0, X', hL, e1, e2, hq, st1⟩ | ⟨q, st₀, t, T', L, E, ce, h0, X', hL, e1, e2, ⟨hE, hP, hF⟩, hce, hcv, hcl, st1⟩
  · exact hq.elim
  · subst hE
    obtain ⟨k1, k2, k3⟩ := vx_keep h0 e1 hW.2.2 (fun q _ h => hW.all q h) hW.all hL hF
    obtain ⟨t2, a1, b1⟩ := kx ce q T'.heap (locs ++ L) (hW.behind (t := t) e1.symm hP k3) k2 (by rw [e1]; exact hce) hcv hcl T' rfl X'
    exact ⟨t2, st1.trans a1, b1⟩
/-- .. and goes on to the caller's caller -/
theorem mx_out {Qc : Array Value → State → Outcome → State → Prop} {E0 : String} {ce : Cell} {q9 : Addr} (ht : ∀ x ∈ c.exceptionTable.toList, False) (hlocks : meth.locks = false) (hW : GW D cl n cel ad (wA n ad) s.heap st H locs) (hcell : H[q9]? = some ce) (hv : ce.vm = .none) (hcl : s.vm.findClass E0 = some ce.cls) :
    vx_W p l e R s m args below meth c H locs 1 6 (vx_MQ below Qc (xC D cl n cel ad st E0) args s 1 6 (wA n ad)) (F0 m pc ls rest) q9 :=
  vx_out (fun x hx => (ht x hx).elim) hlocks hcell hv hcl (fun t h1 _ => xC_at hW (by rw [h1]; exact Nat.le_refl _) (fun q _ => by rw [h1])) hW.2.2.2.2 (Nat.le_refl _) (Nat.le_refl _)
end XT
