-- the start: what the tables say, the two constructors, the world of the loop
section TABS
variable {s : State} {b : Nat}
theorem tb_D (hts : ∀ w ∈ lw_tbl, w.before #[Value.ref b] s = true) : ∃ D : va_G, ∀ (k : Nat) (q : vw_C), vwCl[k]? = some q → u_Kn s q.1 q.2.1 q.2.2 (D.1 k) (D.2 k) := by
  obtain ⟨c0, i0, k0⟩ := u_known (C := RX0) (T := TX0) (N := 7) (n := 7) hts inX0 (hts (.instantiable RX0 7) (by decide +kernel))
  obtain ⟨c1, i1, k1⟩ := u_known (C := RX1) (T := TX1) (N := 4) (n := 4) hts inX1 (hts (.instantiable RX1 4) (by decide +kernel))
  obtain ⟨c2, i2, k2⟩ := u_known (C := RX2) (T := TX2) (N := 7) (n := 7) hts inX2 (hts (.instantiable RX2 7) (by decide +kernel))
  obtain ⟨c3, i3, k3⟩ := u_known (C := RX3) (T := TX3) (N := 10) (n := 10) hts inX3 (hts (.instantiable RX3 10) (by decide +kernel))
  obtain ⟨c4, i4, k4⟩ := u_known (C := RX4) (T := TX4) (N := 3) (n := 3) hts inX4 (hts (.instantiable RX4 3) (by decide +kernel))
  obtain ⟨c5, i5, k5⟩ := u_known (C := RX5) (T := TX5) (N := 4) (n := 4) hts inX5 (hts (.instantiable RX5 4) (by decide +kernel))
  obtain ⟨c6, i6, k6⟩ := u_known (C := RX6) (T := TX6) (N := 30) (n := 30) hts inX6 (hts (.instantiable RX6 30) (by decide +kernel))
  refine ⟨(fun k => match k with | 0 => c0 | 1 => c1 | 2 => c2 | 3 => c3 | 4 => c4 | 5 => c5 | _ => c6, fun k => match k with | 0 => i0 | 1 => i1 | 2 => i2 | 3 => i3 | 4 => i4 | 5 => i5 | _ => i6), ?_⟩
  intro k q hq
  match k, hq with
  | 0, hq => cases hq; exact k0
  | 1, hq => cases hq; exact k1
  | 2, hq => cases hq; exact k2
  | 3, hq => cases hq; exact k3
  | 4, hq => cases hq; exact k4
  | 5, hq => cases hq; exact k5
  | 6, hq => cases hq; exact k6
  | k + 7, hq => simp at hq
theorem tb_T (hts : ∀ w ∈ lw_tbl, w.before #[Value.ref b] s = true) : ∃ cg : Nat → ClassId, ∀ (k : Nat) (q : ClassId × FieldType), (TY cg)[k]? = some q → ArrOfT s q.1 q.2 ∧ va_RA s q.1 q.2 := by
  obtain ⟨cI, kI, pI, f1, f2, f3⟩ := Cond.arrayClass_spec (hts (.arrayClass .int) (by decide +kernel))
  obtain ⟨cZ, kZ, pZ, g1, g2, g3⟩ := Cond.arrayClass_spec (hts (.arrayClass .boolean) (by decide +kernel))
  obtain ⟨cJ, kJ, pJ, h1, h2, h3⟩ := Cond.arrayClass_spec (hts (.arrayClass .long) (by decide +kernel))
  obtain ⟨pQ, cQ, kQ, j1, -, j3, j4, j5⟩ := Cond.arrayOver_spec (hts (.arrayOver (.object "GainsReckoner$Ledger")) (by decide +kernel))
  refine ⟨fun k => match k with | 0 => cI | 1 => cZ | 2 => cJ | _ => cQ, ?_⟩
  intro k q hq
  match k, hq with
  | 0, hq => cases hq; exact ⟨fun n z => ⟨fun k h => (by cases h), kI, f2, pI, f3⟩, f1⟩
  | 1, hq => cases hq; exact ⟨fun n z => ⟨fun k h => (by cases h), kZ, g2, pZ, g3⟩, g1⟩
  | 2, hq => cases hq; exact ⟨fun n z => ⟨fun k h => (by cases h), kJ, h2, pJ, h3⟩, h1⟩
  | 3, hq => cases hq; exact ⟨fun n z => ⟨fun k h => (by cases h), kQ, j3, pQ, j4⟩, kQ, pQ, j3, j4, j1, j5⟩
  | k + 4, hq => simp at hq
set_option maxRecDepth 20000 in
theorem tb_f : ∀ q ∈ nestF, Cond.fieldLinkNest q.1 q.2.1 q.2.2.1 q.2.2.2.1 q.2.2.2.2 "GainsReckoner" ∈ lw_tbl := by decide +kernel
set_option maxRecDepth 20000 in
theorem tb_m : ∀ q ∈ nestM, Cond.methodLinkNest q.1 q.2.1 q.2.2 "GainsReckoner" ∈ lw_tbl := by decide +kernel
theorem tb_N (hts : ∀ w ∈ lw_tbl, w.before #[Value.ref b] s = true) : NW s :=
  ⟨fun q hq => va_Nw.of rfl (hts _ (tb_f q hq)), fun q hq => va_Nw.of rfl (hts _ (tb_m q hq))⟩
set_option maxRecDepth 20000 in
theorem tb_xB : ∀ w ∈ xB, w ∈ lw_tbl := by decide +kernel
set_option maxRecDepth 20000 in
theorem tb_xS : ∀ q ∈ xS, Cond.stringRef RX5 q.1 q.2 ∈ lw_tbl := by decide +kernel
theorem tb_xK (hts : ∀ w ∈ lw_tbl, w.before #[Value.ref b] s = true) : xK s := by
  refine ⟨fun w hw => ?_, fun q hq => ?_⟩
  · have h1 := hts w (tb_xB w hw)
    simp only [xB, List.mem_cons, List.not_mem_nil, or_false] at hw
    rcases hw with rfl | rfl | rfl | rfl | rfl | rfl <;> exact va_tabs rfl rfl h1
  · have h1 := hts _ (tb_xS q hq)
    obtain ⟨c5, i5, k5⟩ := u_known (C := RX5) (T := TX5) (N := 4) (n := 4) hts inX5 (hts (.instantiable RX5 4) (by decide +kernel))
    have h2 : (Cond.stringRef RX5 q.1 q.2).before #[] s = true := by first | exact h1 | simpa [Cond.before, Cond.holds, Cond.value] using h1
    obtain ⟨-, -, -, sa, -, -, -, -, -, hev⟩ := Cond.stringRef_spec k5.2.1 h2
    exact ⟨sa, h2, hev⟩
theorem tb_xZ (hts : ∀ w ∈ lw_tbl, w.before #[Value.ref b] s = true) (hgv : (Jvm.Cond.and given_1 narrow_1).before #[Value.ref b] s = true) : xZ (fun q => s.heap.size ≤ q) s s.heap := by
  have hs := flat_of_before _ hgv
  exact ⟨vx_Zqof (hts (.laysStatic Bundle.tN "UNASSIGNED_STACK" Bundle.steD) (by decide +kernel)) (hts (.initialized Bundle.tN) (by decide +kernel)) (hs (.isRef (.static Bundle.tN "UNASSIGNED_STACK" Bundle.steD)) (by decide +kernel)) (fun a h => Nat.not_le.mpr h), vx_Zqof (hts (.laysStatic Bundle.tN "SUPPRESSED_SENTINEL" Bundle.listD) (by decide +kernel)) (hts (.initialized Bundle.tN) (by decide +kernel)) (hs (.isRef (.static Bundle.tN "SUPPRESSED_SENTINEL" Bundle.listD)) (by decide +kernel)) (fun a h => Nat.not_le.mpr h)⟩
theorem tb_xN (hgv : (Jvm.Cond.and given_1 narrow_1).before #[Value.ref b] s = true) : xN s := by
  have hs := flat_of_before _ hgv
  exact ⟨va_Nc.of (hs (.not (.castable xE2 xE1)) (by decide +kernel)), va_Nc.of (hs (.not (.castable xE3 xE1)) (by decide +kernel)), va_Nc.of (hs (.not (.castable xE3 xE2)) (by decide +kernel))⟩
end TABS
def adT (ax : Nat → Nat) (q3 : Nat) (am : Nat → Nat) : Nat → Nat := fun k => if k < 73 then ax k else if k = 73 then q3 else am (k - 74)
def sM0 : Nat → Nat → Int := stC z0 0 (fnU (fun _ => 0) 11 30)
def sT0 : Nat → Nat → Int := fun k => if k < 73 then sX0 k else if k = 73 then (fun _ => 0) else sM0 (k - 74)
theorem adT_x (cg : Nat → ClassId) (ax : Nat → Nat) (q3 : Nat) (am : Nat → Nat) (f : Nat → Int) : ∀ k, k < 73 → celX cg (adT ax q3 am) f k = celX cg ax f k
  | 0, _ => rfl
  | 1, _ => rfl
  | 2, _ => rfl
  | 3, _ => rfl
  | 4, _ => rfl
  | 5, _ => rfl
  | 6, _ => rfl
  | 7, _ => rfl
  | 8, _ => rfl
  | 9, _ => rfl
  | 10, _ => rfl
  | 11, _ => rfl
  | 12, _ => rfl
  | 13, _ => rfl
  | 14, _ => rfl
  | 15, _ => rfl
  | 16, _ => rfl
  | 17, _ => rfl
  | 18, _ => rfl
  | 19, _ => rfl
  | 20, _ => rfl
  | 21, _ => rfl
  | 22, _ => rfl
  | 23, _ => rfl
  | 24, _ => rfl
  | 25, _ => rfl
  | 26, _ => rfl
  | 27, _ => rfl
  | 28, _ => rfl
  | 29, _ => rfl
  | 30, _ => rfl
  | 31, _ => rfl
  | 32, _ => rfl
  | 33, _ => rfl
  | 34, _ => rfl
  | 35, _ => rfl
  | 36, _ => rfl
  | 37, _ => rfl
  | 38, _ => rfl
  | 39, _ => rfl
  | 40, _ => rfl
  | 41, _ => rfl
  | 42, _ => rfl
  | 43, _ => rfl
  | 44, _ => rfl
  | 45, _ => rfl
  | 46, _ => rfl
  | 47, _ => rfl
  | 48, _ => rfl
  | 49, _ => rfl
  | 50, _ => rfl
  | 51, _ => rfl
  | 52, _ => rfl
  | 53, _ => rfl
  | 54, _ => rfl
  | 55, _ => rfl
  | 56, _ => rfl
  | 57, _ => rfl
  | 58, _ => rfl
  | 59, _ => rfl
  | 60, _ => rfl
  | 61, _ => rfl
  | 62, _ => rfl
  | 63, _ => rfl
  | 64, _ => rfl
  | 65, _ => rfl
  | 66, _ => rfl
  | 67, _ => rfl
  | 68, _ => rfl
  | 69, _ => rfl
  | 70, _ => rfl
  | 71, _ => rfl
  | 72, _ => rfl
  | k + 73, h => absurd h (by omega)
theorem adT_m (cg : Nat → ClassId) (ax : Nat → Nat) (q3 : Nat) (am : Nat → Nat) (f : Nat → Int) : ∀ k, k < 26 → celM cg (fun j => adT ax q3 am (74 + j)) f k = celM cg am f k
  | 0, _ => rfl
  | 1, _ => rfl
  | 2, _ => rfl
  | 3, _ => rfl
  | 4, _ => rfl
  | 5, _ => rfl
  | 6, _ => rfl
  | 7, _ => rfl
  | 8, _ => rfl
  | 9, _ => rfl
  | 10, _ => rfl
  | 11, _ => rfl
  | 12, _ => rfl
  | 13, _ => rfl
  | 14, _ => rfl
  | 15, _ => rfl
  | 16, _ => rfl
  | 17, _ => rfl
  | 18, _ => rfl
  | 19, _ => rfl
  | 20, _ => rfl
  | 21, _ => rfl
  | 22, _ => rfl
  | 23, _ => rfl
  | 24, _ => rfl
  | 25, _ => rfl
  | k + 26, h => absurd h (by omega)
theorem T_get (cg : Nat → ClassId) (ax : Nat → Nat) (q3 : Nat) (am : Nat → Nat) (k : Nat) (q : Nat × va_E) (h : (wl 100 (celT cg) (adT ax q3 am) sT0)[k]? = some q) : ((wl 73 (celX cg) ax sX0 ++ wl 26 (celM cg) am sM0) ++ [(q3, aJ cg 1 (fun _ => 0))])[if k < 73 then k else if k = 73 then 99 else k - 1]? = some q := by
  obtain ⟨hk, rfl⟩ := wl_of h
  have l1 : (wl 73 (celX cg) ax sX0).length = 73 := by simp [wl]
  have l2 : (wl 26 (celM cg) am sM0).length = 26 := by simp [wl]
  by_cases h1 : k < 73
  · have e1 : celT cg (adT ax q3 am) (sT0 k) k = celX cg ax (sX0 k) k := by
      unfold celT celW sT0
      rw [if_pos (by omega), if_pos h1, if_pos h1]
      exact adT_x cg ax q3 am _ k h1
    have e2 : adT ax q3 am k = ax k := if_pos h1
    rw [if_pos h1, e1, e2, List.getElem?_append_left (by rw [List.length_append]; omega), List.getElem?_append_left (by omega)]
    exact wl_get h1
  · by_cases h2 : k = 73
    · subst h2
      rw [if_neg h1, if_pos rfl, List.getElem?_append_right (by rw [List.length_append]; omega), List.length_append, l1, l2]
      rfl
    · have e1 : celT cg (adT ax q3 am) (sT0 k) k = celM cg am (sM0 (k - 74)) (k - 74) := by
        unfold celT sT0
        rw [if_neg (by omega), if_neg h1, if_neg h2]
        exact adT_m cg ax q3 am _ (k - 74) (by omega)
      have e2 : adT ax q3 am k = am (k - 74) := by unfold adT; rw [if_neg h1, if_neg h2]
      rw [if_neg h1, if_neg h2, e1, e2, List.getElem?_append_left (by rw [List.length_append]; omega), List.getElem?_append_right (by omega), l1, show k - 1 - 73 = k - 74 by omega]
      exact wl_get (by omega)
theorem T_world {D : va_G} {cg : Nat → ClassId} {ax : Nat → Nat} {q3 : Nat} {am : Nat → Nat} {A : Nat → Prop} {H0 H : Heap} {locs : List Loc} (hC : CW D ((wl 73 (celX cg) ax sX0 ++ wl 26 (celM cg) am sM0) ++ [(q3, aJ cg 1 (fun _ => 0))]) A H0 H locs) : GW D vwCl 100 (celT cg) (adT ax q3 am) A H0 sT0 H locs := by
  refine ⟨hC.1.by _ (T_get cg ax q3 am), hC.2.1.by _ (T_get cg ax q3 am) (fun i j hi hj h => ?_), hC.2.2⟩
  have l1 : (wl 100 (celT cg) (adT ax q3 am) sT0).length = 100 := by simp [wl]
  rw [l1] at hi hj
  split at h <;> split at h <;> (try split at h) <;> (try split at h) <;> omega
theorem XI_start {x b : Nat → Nat → Int} (b00 : b 0 0 = 0) (b11 : b 0 11 = 30) (b7 : ∀ v, b 7 v = 0) (b10 : ∀ y, b 10 y = 0) (x16 : x 1 6 = 0) (x03 : x 0 3 = 30) (x3 : ∀ k, x 3 k = 0) (x72 : ∀ y, x 72 y = 0) (xl : ∀ v, v < 3 → sub (embL v) x 0 0 = (v : Int) ∧ sub (embL v) x 1 2 = 0 ∧ sub (embL v) x 4 9 = 0 ∧ sub (embL v) x 14 6 = 0) : XI x b := by
  have hN : bN b = 0 := by unfold bN; rw [b00]; rfl
  have hM : ∀ v, bM b v = 0 := fun v => by unfold bM; rw [b7]; rfl
  refine ⟨⟨by rw [b00, hN]; rfl, ⟨by omega, fun k hk => absurd hk (by omega)⟩, fun v hv => ⟨by rw [b7, hM]; rfl, by rw [hM]; exact ⟨by omega, fun i hi => absurd hi (by omega)⟩⟩, by rw [b11]; decide, fun v hv d => ?_, fun y hy => by rw [b10]; decide⟩, ⟨by rw [x16, b00], by rw [x03, b11], fun k hk => absurd hk (by omega), fun v hv => ⟨by rw [(xl v hv).2.1, b7], fun i hi => absurd hi (by rw [hM]; omega)⟩, fun y hy => by rw [x72, b10]⟩, fun v hv => ?_, fun k _ _ => x3 k⟩
  · unfold bH hold wupto
    rw [hN]
    show (0 : Int) ≤ 0 - 0
    decide
  · obtain ⟨h1, h2, h3, h4⟩ := xl v hv
    have hR : lR (sub (embL v) x) = 0 := by unfold lR; rw [h3]; rfl
    unfold LG
    rw [hR]
    refine ⟨h1, ⟨fun r hr => absurd hr (by omega), fun k hk => absurd hk (by omega), fun r q _ hq => absurd hq (by omega)⟩, ⟨h3, fun r hr => absurd hr (by omega)⟩, ⟨h4, fun i y hy => ?_⟩, fun r hr => absurd hr (by omega)⟩
    have hy : ([] : List MTup)[i]? = some y := hy
    simp at hy
theorem T_inv : XI sT0 (sub emM sT0) := by
  refine XI_start rfl rfl (fun _ => rfl) (fun _ => rfl) rfl rfl (fun _ => rfl) (fun _ => rfl) (fun v hv => ?_)
  rcases (show v = 0 ∨ v = 1 ∨ v = 2 by omega) with rfl | rfl | rfl <;> exact ⟨rfl, rfl, rfl, rfl⟩
set_option maxHeartbeats 4000000 in
set_option maxRecDepth 100000 in
theorem whole_start {p : Program} {e : Env} {s : State} {m : MethodId} {below : List Frame} {meth : Method} {c : Code} (l : Launch) (hflags : l.flags = flags0) {b L : Nat} {xs : Nat → Int32} (hL : L ≤ 2560) (C0 : lw_At p s m meth c b L xs) : W p l e room_1 s m #[Value.ref b] below meth c s.heap [] 0 0 (lw_Z below #[Value.ref b] s) (entryFrame m ([Value.ref b] : List Value).toArray 7) := by
  obtain ⟨hx, hb, hr, hml, hown, ht0, hX, hbl, hlocks, hgv⟩ := id C0
  have hb : c.code = cL_law := hb
  have hown : s.vm.findClass RL = some m.cls := hown
  have hst : l.stackTraces = false := by
    unfold Launch.stackTraces
    rw [hflags]
    decide +kernel
  have hts : ∀ w ∈ wsL_law, w.before #[Value.ref b] s = true := fun w h => ht0 w (wsL_law_in w h)
  have hN := tb_N ht0
  have hxK := tb_xK ht0
  have hxZ := tb_xZ ht0 hgv
  have hxN := tb_xN hgv
  have hO : va_AO "GainsReckoner$Ledger" s := va_AO.of (ht0 (.arrayOver (.object "GainsReckoner$Ledger")) (by decide +kernel))
  obtain ⟨D, hKD⟩ := tb_D ht0
  obtain ⟨cg, hKT⟩ := tb_T ht0
  have hK : va_K D vwCl (TY cg) s := ⟨hKD, hKT⟩
  have F : LC p l s m meth c b L xs cg D := ⟨hx, hb, hr, hml, hown, hts, hX, hbl, hlocks, hst, hK, hN, hxK, hxZ, hxN, hL⟩
  have hA : ∀ q : Nat, s.heap.size ≤ q → (fun q : Nat => s.heap.size ≤ q) q := fun _ h => h
  have hC : CW D [] (fun q : Nat => s.heap.size ≤ q) s.heap s.heap [] := ⟨fun k q h => by simp at h, ⟨fun i j p q h => by simp at h, fun k q h => by simp at h⟩, va_S.rf⟩
  have hl := lv_entry ([.ref b]) (n := 7) (Nat.le_of_ble_eq_true rfl)
  rw [lg_entry_eq]
  generalize (lg_sl ([.ref b]) ++ List.replicate (7 - (lg_sl ([.ref b])).length) Slot.unset).toArray = ls at hl ⊢
  have hl : lv_has ls 7 [(0, .ref b)] := hl
  refine ck_new (ci := 5) (fs := [.null, .null, .null, .int (iI 0)]) (C := RX5) (T := TX5) (N := 4) hx hb hts inlX5 tyX5 tyX5_ok hown (ht0 (.classLink RL 8 RX5) (by decide +kernel)) (ht0 (.instantiable RX5 4) (by decide +kernel)) (ht0 (.initialized RX5) (by decide +kernel)) hK hC hA rfl bl5 (Nat.le_of_ble_eq_true rfl) (Nat.le_of_ble_eq_true rfl) dL_law_0 (fun q H hC => ?_)
  refine lv_dup hx hb dL_law_3 rfl ?_
  refine ck_go (n := 73) (cel := celX cg) (st := sX0) hC hA (va_runI (As := []) (rest := [.ref q]) ⟨hx, hb, hml, hown, hts⟩ (c_X5_init l cg D H.size q) (cwI 0 hts gL_law_X5_init rfl rfl rfl (ht0 (.initialized RX5) (by decide +kernel)) (ht0 (.methodLink RL 86 yX5_init) (by decide +kernel)) (ht0 (.instanceMethod yX5_init) (by decide +kernel)) rfl (by decide +kernel) ⟨Nat.le_of_ble_eq_true rfl, Nat.le_of_ble_eq_true rfl⟩) (ck_pre hK hN hO hC) rfl rfl hl.1 rfl (lv_room (Nat.le_of_ble_eq_true rfl)) dL_law_4 ⟨Nat.le_of_ble_eq_true rfl, Nat.le_of_ble_eq_true rfl⟩) (fun ax H locs eax hC => ?_)
  have hC : CW D (wl 73 (celX cg) ax sX0) (fun q : Nat => s.heap.size ≤ q) s.heap H locs := hC
  refine lv_astore_n (lv' := [(1, .ref q), (0, .ref b)]) hx hb dL_law_7 rfl hl (by decide) rfl (fun ls hl => ?_)
  refine ck_new (ci := 6) (fs := [.int (iI 0), .null, .null, .null, .null, .null, .null, .null, .null, .null, .null, .int (iI 0), .int (iI 0), .null, .null, .null, .null, .null, .null, .null, .null, .null, .int (iI 0), .null, .null, .null, .null, .null, .null, .int (iI 0)]) (C := RX6) (T := TX6) (N := 30) hx hb hts inlX6 tyX6 tyX6_ok hown (ht0 (.classLink RL 87 RX6) (by decide +kernel)) (ht0 (.instantiable RX6 30) (by decide +kernel)) (ht0 (.initialized RX6) (by decide +kernel)) hK hC hA rfl bl6 (Nat.le_of_ble_eq_true rfl) (Nat.le_of_ble_eq_true rfl) dL_law_8 (fun q2 H hC => ?_)
  refine lv_dup hx hb dL_law_11 rfl ?_
  refine ck_go (n := 26) (cel := celM cg) (st := sM0) hC hA (va_runI (As := []) (rest := [.ref q2]) ⟨hx, hb, hml, hown, hts⟩ (c_X6_init l cg D H.size q2) (cwI 0 hts gL_law_X6_init rfl rfl rfl (ht0 (.initialized RX6) (by decide +kernel)) (ht0 (.methodLink RL 89 yX6_init) (by decide +kernel)) (ht0 (.instanceMethod yX6_init) (by decide +kernel)) rfl (by decide +kernel) ⟨Nat.le_of_ble_eq_true rfl, Nat.le_of_ble_eq_true rfl⟩) (ck_pre hK hN hO hC) rfl rfl hl.1 rfl (lv_room (Nat.le_of_ble_eq_true rfl)) dL_law_12 ⟨Nat.le_of_ble_eq_true rfl, Nat.le_of_ble_eq_true rfl⟩) (fun am H locs eam hC => ?_)
  refine lv_astore_n (lv' := [(2, .ref q2), (1, .ref q), (0, .ref b)]) hx hb dL_law_15 rfl hl (by decide) rfl (fun ls hl => ?_)
  refine lv_iconst (v := 1) hx hb dL_law_16 rfl ?_
  refine ck_newJ (N := 1) hx hb (ht0 (.arrayClass .long) (by decide +kernel)) hK hC hA (by decide) rfl (Nat.le_of_ble_eq_true rfl) (Nat.le_of_ble_eq_true rfl) (Nat.le_of_ble_eq_true rfl) dL_law_17 (fun q3 H hC => ?_)
  refine lv_astore_n (lv' := [(3, .ref q3), (2, .ref q2), (1, .ref q), (0, .ref b)]) hx hb dL_law_19 rfl hl (by decide) rfl (fun ls hl => ?_)
  refine lv_iconst (v := iI ((0 : Nat) : Int)) hx hb dL_law_20 rfl ?_
  refine lv_istore (lv' := [(4, .int (iI ((0 : Nat) : Int))), (3, .ref q3), (2, .ref q2), (1, .ref q), (0, .ref b)]) hx hb dL_law_21 hl (by decide) rfl (fun ls hl => ?_)
  have hW := T_world hC
  rw [← eax, ← eam] at hl
  refine W.widen (k := 100 + 0) (n := 5674 + 6 * 0) (Nat.le_of_ble_eq_true rfl) (Nat.le_of_ble_eq_true rfl) ?_
  exact law_loop F (L + 1) 0 (by omega) (by omega) ls sT0 H locs (lv_sub hl [4, 3, 2, 1, 0] rfl) hW T_inv
