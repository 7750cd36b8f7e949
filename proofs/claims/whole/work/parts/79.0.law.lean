/-! THE CLAIM OUT OF ONE WALK OF THE LAW'S BODY. Your part is whole_start (and what it stands on); all else here is the same for every law, but numbers. -/
def R_law : String := "GainsReckonerLaw"
def lw_P (b : Addr) (xs : List Int32) (args : Array Value) (s : State) : Prop := args = #[.ref b] ∧ s.IntsAt b xs ∧ xs.length ≤ 2560 ∧ (Jvm.Cond.and given_1 narrow_1).before args s = true
def lw_Q (_ : Array Value) (s : State) (o : Outcome) (t : State) : Prop := o = .returned (some (.int 1)) ∧ Framed s o t [] 601024 7293034
def lw_Z (below : List Frame) (a : Array Value) (s : State) : State → Prop := fun t => ∃ o, t.status = .running ∧ Ended t below o ∧ lw_Q a s o t
/-- the law's own end, with 1 on the stack, nothing written that was there before, its room as the claim has it -/
theorem lw_ret {p : Program} {l : Launch} {e : Env} {s : State} {m : MethodId} {below : List Frame} {meth : Method} {c : Code} {b : Nat} (hx : p.tables.exec = Jvm.exec) (hb : c.code = code) (hr : meth.sig.returnType = ret) (hlocks : meth.locks = false) {pc : Nat} {H : Heap} {ls : Array Slot} (hdg : decode code pc = .ok (.ireturn, 1)) : W p l e room_1 s m #[Value.ref b] below meth c H [] 601024 7293034 (lw_Z below #[Value.ref b] s) (F0 m pc ls [.int 1]) := by
  intro T hT X
  obtain ⟨fs, hret, hrun, hended, hW, hframe⟩ := X.leave (v := some (.int 1)) (hlocks := hlocks) (fun h => by rw [hr] at h; cases h)
  have hmeth' : T.vm.method? m = some meth := X.method'
  refine ⟨T.setFrames fs, ?_, .returned (some (.int 1)), hrun, hended, rfl, ⟨_, rfl⟩, hW, hframe⟩
  jvm_step X.here [X.here.top, hx, hb, hdg, hmeth', hr, ret, narrow_b1]
  (try refine ⟨rfl, ?_⟩); (try refine ⟨rfl, ?_⟩)
  first | (intro acts; rw [hret _ acts rfl rfl rfl]) | rw [hret _ _ rfl rfl rfl]
  exact Steps.refl _
/-- what holds at the law's entry: the machine, the code, the tables' words (any of lw_tbl by 'hts w (by decide +kernel)'), the script of L ints xs at the cell b, what the Statement gives of the start (any of its parts by flat_of_before) -/
def lw_At (p : Program) (s : State) (m : MethodId) (meth : Method) (c : Code) (b L : Nat) (xs : Nat → Int32) : Prop :=
  p.tables.exec = Jvm.exec ∧ c.code = code ∧ meth.sig.returnType = ret ∧ c.maxLocals = 7 ∧ s.vm.findClass R_law = some m.cls ∧ (∀ w ∈ lw_tbl, w.before #[Value.ref b] s = true) ∧ va_X b L xs s s.heap ∧ b < s.heap.size ∧ meth.locks = false ∧ (Jvm.Cond.and given_1 narrow_1).before #[Value.ref b] s = true

-- the law's world: the class (0..72), the cell of the answers (73), the reference (74..99)
def celT (cg : Nat → ClassId) (ad : Nat → Nat) (f : Nat → Int) (k : Nat) : va_E := if k < 74 then celW cg ad f k else celM cg (fun j => ad (74 + j)) f (k - 74)
def emM (k : Nat) : Nat := 74 + k
theorem EmbWT (cg : Nat → ClassId) (ad : Nat → Nat) : Emb 74 (celW cg) ad 100 (celT cg) ad (fun k => k) := ⟨fun k hk => ⟨show k < 100 by omega, rfl⟩, fun _ _ _ _ h => h, fun k hk f => (if_pos hk).symm⟩
theorem EmbXT (cg : Nat → ClassId) (ad : Nat → Nat) : Emb 73 (celX cg) ad 100 (celT cg) ad (fun k => k) := ⟨fun k hk => ⟨show k < 100 by omega, rfl⟩, fun _ _ _ _ h => h, fun k hk f => by
  show celX cg ad f k = celT cg ad f k
  unfold celT celW
  rw [if_pos (by omega), if_pos hk]⟩
theorem EmbMT (cg : Nat → ClassId) (ad : Nat → Nat) : Emb 26 (celM cg) (fun j => ad (74 + j)) 100 (celT cg) ad emM := ⟨fun k hk => ⟨show 74 + k < 100 by omega, rfl⟩, fun i j _ _ h => by unfold emM at h; omega, fun k hk f => by
  unfold celT emM
  rw [if_neg (by omega), show 74 + k - 74 = k by omega]⟩
theorem emM_inj : ∀ i j, i < 26 → j < 26 → emM i = emM j → i = j := fun i j _ _ h => by unfold emM at h; omega
theorem up_w {k : Nat} (hk : k < 74) (u st : Nat → Nat → Int) : up 74 (fun k => k) u st k = u k := up_in (em := fun k => k) (fun _ _ _ _ h => h) hk u st
theorem up_wm (k : Nat) (u st : Nat → Nat → Int) : up 74 (fun k => k) u st (74 + k) = st (74 + k) := up_out (em := fun k => k) (fun i hi h => by have h2 : i = 74 + k := h; omega) u st
theorem sub_wm (u st : Nat → Nat → Int) : sub emM (up 74 (fun k => k) u st) = sub emM st := funext fun k => up_wm k u st
theorem up_x {k : Nat} (hk : k < 73) (u st : Nat → Nat → Int) : up 73 (fun k => k) u st k = u k := up_in (em := fun k => k) (fun _ _ _ _ h => h) hk u st
theorem up_m_lo {k : Nat} (hk : k < 74) (u st : Nat → Nat → Int) : up 26 emM u st k = st k := up_out (fun i hi h => by unfold emM at h; omega) u st
theorem up_m {k : Nat} (hk : k < 26) (u st : Nat → Nat → Int) : sub emM (up 26 emM u st) k = u k := sub_up emM_inj u st hk
theorem BEq.on {b u w : Nat → Nat → Int} (h : BEq b u) (hw : ∀ k, k < 11 → w k = u k) : BEq b w := by
  obtain ⟨h1, h2, h3, h4, h5⟩ := h
  refine ⟨by rw [hw 0 (by omega)]; exact h1, by rw [hw 0 (by omega)]; exact h2, fun k hk => ?_, fun v hv => ?_, fun y hy => by rw [hw 10 (by omega)]; exact h5 y hy⟩
  · rw [hw 1 (by omega), hw 2 (by omega), hw 3 (by omega), hw 4 (by omega), hw 5 (by omega), hw 6 (by omega)]; exact h3 k hk
  · rw [hw 7 (by omega), hw 8 (by omega), hw 9 (by omega)]; exact h4 v hv
theorem inv_next {st st1 u2 b1 : Nat → Nat → Int} (hX : XI st1 b1) (hB : BEq b1 u2) : XI (up 26 emM u2 st1) (sub emM (up 26 emM u2 st1)) :=
  (hX.on fun k hk => up_m_lo (by omega) u2 st1).be (hB.on fun k hk => up_m (by omega) u2 st1)
section LAWK
variable {p : Program} {l : Launch} {e : Env} {R : Room} {s : State} {m : MethodId} {args : Array Value} {below : List Frame} {meth : Method} {c : Code} {H : Heap} {locs : List Loc} {cells slots : Nat} {Q : State → Prop}
variable {cc : ByteArray} {pc : Nat} {ls : Array Slot} {rest : List Value} {D : va_G} {cl : List vw_C} {A : Nat → Prop} {tys : List (ClassId × FieldType)} {H0 : Heap} {n n' : Nat} {cel cel' : (Nat → Nat) → (Nat → Int) → Nat → va_E} {ad ad' : Nat → Nat} {em : Nat → Nat} {st : Nat → Nat → Int} {cg : Nat → ClassId} {b L : Nat} {xs : Nat → Int32}
theorem mw_goIE {mc ms : Nat} {st0 : List Value} {a : Array Value} {post : Int → (Nat → Nat → Int) → Prop} (hE : Emb n cel ad n' cel' ad' em) (hr : va_Run p l e R s m args below meth c H locs cells slots mc ms (F0 m pc ls st0) rest (va_Qi (fun (r : Int32) (u : Nat → Nat → Int) => ∃ z : Int, r = iI z ∧ post z u) (mB D cl n cel ad) (wA n ad) a) (wA n ad)) (hW : GW D cl n' cel' ad' A H0 st H locs)
    (kk : ∀ (z : Int) (st1 : Nat → Nat → Int), post z st1 → ∀ (H1 : Heap) (locs1 : List Loc), GW D cl n' cel' ad' A H0 (up n em st1 st) H1 locs1 → W p l e R s m args below meth c H1 locs1 (cells + mc) (slots + ms) Q (F0 m (pc + 3) ls (.int (iI z) :: rest))) : W p l e R s m args below meth c H locs cells slots Q (F0 m pc ls st0) := by
  refine va_calli hr hW.2.2 (fun q _ h => (hW.emb hE).all q h) (hW.emb hE).all (fun r u t H1 locs1 ht hvm hp hB hz hk hS => ?_)
  obtain ⟨z, rfl, hp⟩ := hp
  exact kk z u hp H1 locs1 (hW.behindE hE ht hB hk hS)
theorem mw_preS {As : List Value} (hK : va_K D cl tys s) (hN : NW s) (hxK : xK s) (hxZ : xZ A s s.heap) (hxN : xN s) (hW : GW D cl n cel ad A s.heap st H locs) : PreS s H (va_Pc As (mPW D cl tys n cel ad st)) As := by
  obtain ⟨-, h2⟩ := mx_preS (As := As) hK hN hxK hxZ hW
  exact ⟨mPW_blind, fun U hU hWm => ⟨rfl, (h2 U hU hWm).2, hxN.moved hWm.alike⟩⟩
def LC (p : Program) (l : Launch) (s : State) (m : MethodId) (meth : Method) (c : Code) (b L : Nat) (xs : Nat → Int32) (cg : Nat → ClassId) (D : va_G) : Prop :=
  p.tables.exec = Jvm.exec ∧ c.code = cL_law ∧ meth.sig.returnType = ret ∧ c.maxLocals = 7 ∧ s.vm.findClass RL = some m.cls ∧ (∀ w ∈ wsL_law, w.before #[Value.ref b] s = true) ∧ va_X b L xs s s.heap ∧ b < s.heap.size ∧ meth.locks = false ∧ l.stackTraces = false ∧ va_K D vwCl (TY cg) s ∧ NW s ∧ xK s ∧ xZ (fun q => s.heap.size ≤ q) s s.heap ∧ xN s ∧ L ≤ 2560
theorem lk_arg (F : LC p l s m meth c b L xs cg D) (hW : GW D vwCl 100 (celT cg) ad (fun q => s.heap.size ≤ q) s.heap st H locs) {i : Nat} (h0 : ls[0]? = some (.val (.ref b))) (h4 : ls[4]? = some (.val (.int (iI (i : Int))))) {j : Nat} {z : Int} (hj : i + j < L) (hz : z = (j : Int)) (d0 : decode cL_law pc = .ok (.aload_n 0, 1)) (d1 : decode cL_law (pc + 1) = .ok (.iload 4, 2)) (d3 : decode cL_law (pc + 3) = .ok (.iconst z, 1)) (d4 : decode cL_law (pc + 4) = .ok (.iadd, 1)) (d5 : decode cL_law (pc + 5) = .ok (.iaload, 1))
    (kk : W p l e R s m args below meth c H locs cells slots Q (F0 m (pc + 6) ls (.int (iI (xs (i + j)).toInt) :: rest))) : W p l e R s m args below meth c H locs cells slots Q (F0 m pc ls rest) := by
  obtain ⟨hx, hb, -, -, -, -, hXs, hbl, -, -, -, -, -, -, -, hL⟩ := F
  refine lv_aload_n hx hb d0 rfl h0 ?_
  refine lv_iload hx hb d1 h4 ?_
  refine mk_iconst hx hb z d3 ?_
  refine mk_iadd hx hb d4 ?_
  subst hz
  rw [show (i : Int) + (j : Int) = ((i + j : Nat) : Int) by omega]
  refine va_sld hx hb hXs hbl (Nat.not_le.mpr hbl) hW.2.2 (iI_in hj (by omega)) d5 ?_
  rw [iI_clamp (by omega)]
  refine W.eq (g2 := F0 m (pc + 6) ls (.int (iI (xs (i + j)).toInt) :: rest)) ?_ kk
  rw [← iI_self]
theorem lk_tail (F : LC p l s m meth c b L xs cg D) {i : Nat} {z v2 off : Int} (hl : lv_has ls 7 [(5, .int (iI z)), (0, .ref b), (1, .ref (ad 0)), (2, .ref (ad 74)), (3, .ref (ad 73)), (4, .int (iI (i : Int)))]) (hW : GW D vwCl 100 (celT cg) ad (fun q => s.heap.size ≤ q) s.heap st H locs) (hz : 0 ≤ z ∧ z ≤ 3) (h29 : st 74 29 = z) (hv : z = 0 → st 73 0 = wr v2) (hcs : cells ≤ 601024 ∧ slots ≤ 7293034) (htgt : ((pc + 30 : Nat) : Int) + off = (1597 : Nat))
    (d0 : decode cL_law pc = .ok (.istore 6, 2)) (d2 : decode cL_law (pc + 2) = .ok (.aload_n 2, 1)) (d3 : decode cL_law (pc + 3) = .ok (.invokevirtual 96, 3)) (d6 : decode cL_law (pc + 6) = .ok (.iload 5, 2)) (d8 : decode cL_law (pc + 8) = .ok (.if_icmp .eq 5, 3)) (d13 : decode cL_law (pc + 13) = .ok (.iload 5, 2)) (d15 : decode cL_law (pc + 15) = .ok (.ifCond .ne 15, 3)) (d18 : decode cL_law (pc + 18) = .ok (.aload_n 3, 1)) (d19 : decode cL_law (pc + 19) = .ok (.iconst 0, 1)) (d20 : decode cL_law (pc + 20) = .ok (.laload, 1)) (d21 : decode cL_law (pc + 21) = .ok (.iload 6, 2)) (d23 : decode cL_law (pc + 23) = .ok (.i2l, 1)) (d24 : decode cL_law (pc + 24) = .ok (.lcmp, 1)) (d25 : decode cL_law (pc + 25) = .ok (.ifCond .eq 5, 3)) (d30 : decode cL_law (pc + 30) = .ok (.goto off, 3))
    (kk : ∀ (ls : Array Slot) (H : Heap) (locs : List Loc), lv_has ls 7 [(0, .ref b), (1, .ref (ad 0)), (2, .ref (ad 74)), (3, .ref (ad 73)), (4, .int (iI (i : Int)))] → GW D vwCl 100 (celT cg) ad (fun q => s.heap.size ≤ q) s.heap st H locs → W p l e room_1 s m #[Value.ref b] below meth c H locs cells slots Q (F0 m 1597 ls [])) : W p l e room_1 s m #[Value.ref b] below meth c H locs cells slots Q (F0 m pc ls [.int (iI v2)]) := by
  obtain ⟨hx, hb, hr, hml, hown, hts, hXs, hbl, hlocks, hst, hK, hN, hxK, hxZ, hxN, hL⟩ := id F
  refine lv_istore (lv' := [(6, .int (iI v2)), (5, .int (iI z)), (0, .ref b), (1, .ref (ad 0)), (2, .ref (ad 74)), (3, .ref (ad 73)), (4, .int (iI (i : Int)))]) hx hb d0 hl (by decide) rfl (fun ls hl => ?_)
  refine lv_aload_n hx hb d2 rfl (lv_at hl 4 rfl) ?_
  refine mk_goIE (EmbMT cg ad) (va_runV (As := []) (rest := []) ⟨hx, hb, hml, hown, hts⟩ (c_X6_thrown l cg D (fun j => ad (74 + j)) (sub emM st)) (cwV 0 hts gL_law_X6_thrown rfl rfl rfl (by decide +kernel) ⟨Nat.le_of_ble_eq_true rfl, Nat.le_of_ble_eq_true rfl⟩) (mk_preV hK hN (hW.emb (EmbMT cg ad)) 0 (by decide) rfl rfl rfl) rfl rfl hl.1 rfl (lv_room (Nat.le_of_ble_eq_true rfl)) d3 ⟨hcs.1, hcs.2⟩) hW (fun z2 u2 hp H locs hW => ?_)
  obtain ⟨e1, e2⟩ := hp
  rw [e1, up_self emM_inj] at hW
  have e3 : z2 = z := e2.trans h29
  subst e3
  refine lv_iload hx hb d6 (lv_at hl 1 rfl) ?_
  refine lv_icmp_eq (tgt := pc + 13) hx hb d8 (by omega) (fun _ => ?_) (fun h => absurd rfl h)
  refine lv_iload hx hb d13 (lv_at hl 1 rfl) ?_
  have fin : W p l e room_1 s m #[Value.ref b] below meth c H locs cells slots Q (F0 m (pc + 30) ls []) := by
    refine lv_goto (tgt := 1597) hx hb d30 htgt ?_
    exact kk _ _ _ (lv_sub hl [2, 3, 4, 5, 6] rfl) hW
  refine mk_if_ne (tgt := pc + 30) hx hb d15 (by omega) (by omega) (fun h => ?_) (fun h => ?_)
  · exact fin
  · refine lv_aload_n hx hb d18 rfl (lv_at hl 5 rfl) ?_
    refine mk_iconst hx hb 0 d19 ?_
    refine mk_lald hx hb hK hW 73 (by decide) (cA := cg 2) (N := 1) rfl 2 rfl 0 rfl (by decide) (by decide) d20 ?_
    refine lv_iload hx hb d21 (lv_at hl 0 rfl) ?_
    refine mk_i2lw hx hb d23 ?_
    have g1 := wr_rng v2
    rw [hv h]
    refine mk_lcmp hx hb d24 (by omega) (by omega) (fun z3 h1 h2 h3 h4 => ?_)
    refine mk_if_eq (tgt := pc + 30) hx hb d25 (by omega) (by omega) (fun _ => fin) (fun h => absurd (h2.mpr rfl) h)
end LAWK
