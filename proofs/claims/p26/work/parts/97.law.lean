-- the drawn reckoner
def LC (p : Program) (l : Launch) (s : State) (m : MethodId) (meth : Method) (c : Code) (b L : Nat) (xs : Nat → Int32) (cg : Nat → ClassId) (D : va_G) : Prop :=
  p.tables.exec = Jvm.exec ∧ c.code = cL_law ∧ meth.sig.returnType = ret ∧ c.maxLocals = 6 ∧ s.vm.findClass RL = some m.cls ∧ (∀ w ∈ wsL_law, w.before #[Value.ref b] s = true) ∧ va_X b L xs s s.heap ∧ b < s.heap.size ∧ meth.locks = false ∧ l.stackTraces = false ∧ va_K D vwCl (TY cg) s ∧ NW s ∧ xK s ∧ xZ (fun q => s.heap.size ≤ q) s s.heap ∧ xN s ∧ L ≤ 260
/-- no share was split; no more trades than rounds -/
def NS (bk : Nat → Nat → Int) (k : Nat) : Prop := (∀ v, v < 3 → bM bk v = 0) ∧ bN bk ≤ k
theorem NS.ent {bk : Nat → Nat → Int} {k : Nat} (h : NS bk k) (v d ct mo sa : Int) : NS (entM bk v d ct mo sa) (k + 1) := ⟨fun u hu => h.1 u hu, by rw [entM_N]; have := h.2; omega⟩
theorem NS.up {bk : Nat → Nat → Int} {k : Nat} (h : NS bk k) : NS bk (k + 1) := ⟨h.1, by have := h.2; omega⟩
theorem NS.hold {bk : Nat → Nat → Int} {k : Nat} (h : NS bk k) {v : Nat} (hv : v < 3) (d : Int) : bH bk v d / fla (bSD bk v) (bSF bk v) (bM bk v) d = bH bk v d := by
  rw [h.1 v hv]
  show _ / 1 = _
  exact Int.ediv_one _
theorem NS.after {bk : Nat → Nat → Int} {k : Nat} (h : NS bk k) {v : Nat} (hv : v < 3) {d ct mo sa : Int} (hd : d < 1825) : bH (entM bk ((v : Nat) : Int) d ct mo sa) v 1824 = bH bk v 1824 + (if sa = 0 then ct else -ct) := by
  rw [entM_H, h.1 v hv, if_pos ⟨rfl, by omega⟩]
  show _ + (if sa = 0 then ct * 1 else -(ct * 1)) = _
  rw [Int.mul_one]
theorem NS.rng {x bk : Nat → Nat → Int} (hX : XI x bk) {v : Nat} (hv : v < 3) (d : Int) : 0 ≤ bH bk v d ∧ bH bk v d ≤ 37500000 :=
  ⟨hX.1.2.2.2.2.1 v hv d, (hold_bd hX.1.2.1 (hX.1.2.2.1 v hv).2 d).2⟩
section SG_law
variable {p : Program} {l : Launch} {e : Env} {s : State} {m : MethodId} {below : List Frame} {meth : Method} {c : Code} {H : Heap} {locs : List Loc} {Q : State → Prop} {ls : Array Slot} {D : va_G} {cg : Nat → ClassId} {ad : Nat → Nat} {st bk : Nat → Nat → Int} {b L : Nat} {xs : Nat → Int32} {cells slots : Nat}
set_option maxHeartbeats 4000000 in
set_option maxRecDepth 100000 in
theorem d_x (F : LC p l s m meth c b L xs cg D) {k : Nat} (hk : k < 24) (hl : lv_has ls 6 [(2, .int (iI ((k : Nat) : Int))), (1, .ref (ad 0)), (0, .ref b)]) (hW : GW D vwCl 73 (celX cg) ad (fun q => s.heap.size ≤ q) s.heap st H locs)
    (kk : ∀ (n : Nat) (ls : Array Slot), n < 16777216 → lv_has ls 6 [(3, .int (iI ((n : Nat) : Int))), (2, .int (iI ((k : Nat) : Int))), (1, .ref (ad 0)), (0, .ref b)] → W p l e room_1 s m #[Value.ref b] below meth c H locs cells slots Q (F0 m 58 ls [])) : W p l e room_1 s m #[Value.ref b] below meth c H locs cells slots Q (F0 m 30 ls []) := by
  obtain ⟨hx, hb, hr, hml, hown, hts, hXs, hbl, hlocks, hst, hK, hN, hxK, hxZ, hxN, hL⟩ := id F
  refine lv_iload_n hx hb dL_law_30 rfl (lv_at hl 0 rfl) ?_
  refine mk_bipush hx hb (24) (by decide +kernel) dL_law_31 ?_
  refine mk_icmp_ge (tgt := 186) hx hb dL_law_33 (by decide) (by omega) (by omega) (fun h => absurd h (by omega)) (fun _ => ?_)
  refine lv_aload_n hx hb dL_law_36 rfl (lv_at hl 2 rfl) ?_
  refine va_slen hx hb hXs hbl (Nat.not_le.mpr hbl) hW.2.2 dL_law_37 ?_
  have eL : Int32.ofNat L = iI (L : Int) := by rw [← Int32.toInt_inj, iI_toInt (by omega), Int32.toInt_ofNat_of_lt (by omega)]
  rw [eL]
  have fin : ∀ (n : Nat), n < 16777216 → W p l e room_1 s m #[Value.ref b] below meth c H locs cells slots Q (F0 m 57 ls [.int (iI ((n : Nat) : Int))]) := by
    intro n hn
    refine lv_istore_n (lv' := [(3, .int (iI ((n : Nat) : Int))), (2, .int (iI ((k : Nat) : Int))), (1, .ref (ad 0)), (0, .ref b)]) hx hb dL_law_57 rfl hl (by decide) rfl (fun ls hl => ?_)
    exact kk n ls hn hl
  refine mk_if_ne (tgt := 48) hx hb dL_law_38 (by decide) (by omega) (fun h0 => ?_) (fun h0 => ?_)
  · refine lv_aload_n hx hb dL_law_48 rfl (lv_at hl 2 rfl) ?_
    refine lv_iload_n hx hb dL_law_49 rfl (lv_at hl 0 rfl) ?_
    refine lv_aload_n hx hb dL_law_50 rfl (lv_at hl 2 rfl) ?_
    refine va_slen hx hb hXs hbl (Nat.not_le.mpr hbl) hW.2.2 dL_law_51 ?_
    rw [eL]
    refine mk_irem hx hb dL_law_52 (by omega) (by omega) ?_
    refine mk_sayi (y := ((k % L : Nat) : Int)) (by omega) ?_
    refine va_sld hx hb hXs hbl (Nat.not_le.mpr hbl) hW.2.2 (iI_in (Nat.mod_lt _ (by omega)) (by omega)) dL_law_53 ?_
    refine mk_bipush hx hb (8) (by decide +kernel) dL_law_54 ?_
    obtain ⟨n, h1, h2⟩ := sh8 (xs (iI ((k % L : Nat) : Int)).toNatClampNeg)
    refine lv_iushr hx hb dL_law_56 h2 ?_
    exact fin n h1
  · refine mk_bipush hx hb (29) (by decide +kernel) dL_law_41 ?_
    refine lv_iload_n hx hb dL_law_43 rfl (lv_at hl 0 rfl) ?_
    refine mk_imul hx hb dL_law_44 ?_
    refine lv_goto (tgt := 57) hx hb dL_law_45 (by decide) ?_
    refine mk_sayi (y := ((29 * k : Nat) : Int)) (by omega) ?_
    exact fin (29 * k) (by omega)
set_option maxHeartbeats 4000000 in
set_option maxRecDepth 100000 in
theorem d_a (F : LC p l s m meth c b L xs cg D) {k n v w : Nat} (hk : k < 24) (hn : n < 16777216) (hv : v = n % 3) (hw : w = n % 2) (hcs : cells + 1 ≤ 600104 ∧ slots + 6 ≤ 7301314) (hS : NS bk k) (hX : XI st bk) (hl : lv_has ls 6 [(3, .int (iI ((n : Nat) : Int))), (2, .int (iI ((k : Nat) : Int))), (1, .ref (ad 0)), (0, .ref b)]) (hW : GW D vwCl 73 (celX cg) ad (fun q => s.heap.size ≤ q) s.heap st H locs)
    (kk : ∀ (z : Int) (st1 : Nat → Nat → Int) (ls : Array Slot) (H : Heap) (locs : List Loc), ((w = 0 ∧ (0 ≤ z ∧ z < 60) ∧ XI st1 (entM bk ((v : Nat) : Int) ((n / 6 % 1825 : Nat) : Int) ((1 + n % 1000 : Nat) : Int) ((n % 1000001 : Nat) : Int) 0)) ∨ (w = 1 ∧ (0 ≤ z ∧ z < 60) ∧ XI st1 (entM bk ((v : Nat) : Int) ((n / 6 % 1825 : Nat) : Int) ((1 + n % 1000 : Nat) : Int) ((n % 1000001 : Nat) : Int) 1)) ∨ (w = 1 ∧ z = -93 ∧ st1 = st)) → lv_has ls 6 [(5, .int (iI z)), (4, .int (iI (bH bk v 1824))), (3, .int (iI ((n : Nat) : Int))), (2, .int (iI ((k : Nat) : Int))), (1, .ref (ad 0)), (0, .ref b)] → GW D vwCl 73 (celX cg) ad (fun q => s.heap.size ≤ q) s.heap st1 H locs → W p l e room_1 s m #[Value.ref b] below meth c H locs (cells + 1) (slots + 6) Q (F0 m 101 ls [])) : W p l e room_1 s m #[Value.ref b] below meth c H locs cells slots Q (F0 m 58 ls []) := by
  obtain ⟨hx, hb, hr, hml, hown, hts, hXs, hbl, hlocks, hst, hK, hN, hxK, hxZ, hxN, hL⟩ := id F
  refine lv_aload_n hx hb dL_law_58 rfl (lv_at hl 2 rfl) ?_
  refine lv_iload_n hx hb dL_law_59 rfl (lv_at hl 0 rfl) ?_
  refine mk_iconst hx hb (3) dL_law_60 ?_
  refine mk_irem hx hb dL_law_61 (by omega) (by omega) ?_
  refine mk_sayi (y := ((v : Nat) : Int)) (by omega) ?_
  refine mk_sipush hx hb (1824) (by decide +kernel) dL_law_62 ?_
  refine mk_goI (va_runV (As := [.int (iI ((v : Nat) : Int)), .int (iI 1824)]) (rest := []) ⟨hx, hb, hml, hown, hts⟩ (g_holding l cg D ad st bk hX v (by omega) 1824 (by decide)) (cwV 2 hts gL_law_X5_holding rfl rfl rfl (by decide +kernel) ⟨Nat.le_of_ble_eq_true rfl, Nat.le_of_ble_eq_true rfl⟩) (mk_preV hK hN hW 0 (by decide) rfl rfl rfl) rfl rfl hl.1 rfl (lv_room (Nat.le_of_ble_eq_true rfl)) dL_law_65 ⟨by show cells ≤ 600104; omega, by show slots ≤ 7301314; omega⟩) hW (fun z st1 hp H locs hW => ?_)
  obtain ⟨e1, e2⟩ := hp
  rw [e1] at hW
  refine mk_sayi (y := (bH bk v 1824)) (e2.trans (hS.hold (by omega) 1824)) ?_
  refine lv_istore (lv' := [(4, .int (iI (bH bk v 1824))), (3, .int (iI ((n : Nat) : Int))), (2, .int (iI ((k : Nat) : Int))), (1, .ref (ad 0)), (0, .ref b)]) hx hb dL_law_68 hl (by decide) rfl (fun ls hl => ?_)
  refine lv_aload_n hx hb dL_law_70 rfl (lv_at hl 3 rfl) ?_
  refine lv_iload_n hx hb dL_law_71 rfl (lv_at hl 1 rfl) ?_
  refine mk_iconst hx hb (2) dL_law_72 ?_
  refine mk_irem hx hb dL_law_73 (by omega) (by omega) ?_
  refine mk_sayi (y := ((w : Nat) : Int)) (by omega) ?_
  refine lv_iload_n hx hb dL_law_74 rfl (lv_at hl 1 rfl) ?_
  refine mk_iconst hx hb (3) dL_law_75 ?_
  refine mk_irem hx hb dL_law_76 (by omega) (by omega) ?_
  refine mk_sayi (y := ((v : Nat) : Int)) (by omega) ?_
  refine lv_iload_n hx hb dL_law_77 rfl (lv_at hl 1 rfl) ?_
  refine mk_bipush hx hb (6) (by decide +kernel) dL_law_78 ?_
  refine mk_idiv hx hb dL_law_80 (by omega) (by omega) ?_
  refine mk_sipush hx hb (1825) (by decide +kernel) dL_law_81 ?_
  refine mk_irem hx hb dL_law_84 (by omega) (by omega) ?_
  refine mk_sayi (y := ((n / 6 % 1825 : Nat) : Int)) (by omega) ?_
  refine mk_iconst hx hb (1) dL_law_85 ?_
  refine lv_iload_n hx hb dL_law_86 rfl (lv_at hl 1 rfl) ?_
  refine mk_sipush hx hb (1000) (by decide +kernel) dL_law_87 ?_
  refine mk_irem hx hb dL_law_90 (by omega) (by omega) ?_
  refine mk_iadd hx hb dL_law_91 ?_
  refine mk_sayi (y := ((1 + n % 1000 : Nat) : Int)) (by omega) ?_
  refine lv_iload_n hx hb dL_law_92 rfl (lv_at hl 1 rfl) ?_
  refine mk_ldc hx hb (1000001) hown (hts (.constant RL 91 (1000001)) (by decide +kernel)) dL_law_93 ?_
  refine mk_irem hx hb dL_law_95 (by omega) (by omega) ?_
  refine mk_sayi (y := ((n % 1000001 : Nat) : Int)) (by omega) ?_
  refine mw_goIs (vx_runSW (As := [.ref (ad 0), .int (iI ((w : Nat) : Int)), .int (iI ((v : Nat) : Int)), .int (iI ((n / 6 % 1825 : Nat) : Int)), .int (iI ((1 + n % 1000 : Nat) : Int)), .int (iI ((n % 1000001 : Nat) : Int))]) (rest := []) ⟨hx, hb, hml, hown, hts⟩ (g_act l cg D ad st hst bk hX (by have := hS.2; omega) w (by omega) v (by omega) ((n / 6 % 1825 : Nat) : Int) ((1 + n % 1000 : Nat) : Int) ((n % 1000001 : Nat) : Int) (by omega) (by omega) (by omega)) (vx_cwSW 6 hts gL_law_L_act rfl rfl rfl (by decide +kernel) ⟨Nat.le_of_ble_eq_true rfl, Nat.le_of_ble_eq_true rfl⟩) (mw_preS hK hN hxK hxZ hxN hW) rfl rfl hl.1 rfl (lv_room (Nat.le_of_ble_eq_true rfl)) dL_law_96 ⟨by show cells + 1 ≤ 600104; omega, by show slots + 6 ≤ 7301314; omega⟩) hW (fun z st1 hp H locs hW => ?_)
  refine lv_istore (lv' := [(5, .int (iI z)), (4, .int (iI (bH bk v 1824))), (3, .int (iI ((n : Nat) : Int))), (2, .int (iI ((k : Nat) : Int))), (1, .ref (ad 0)), (0, .ref b)]) hx hb dL_law_99 hl (by decide) rfl (fun ls hl => ?_)
  exact kk z st1 _ _ _ hp hl hW
set_option maxHeartbeats 4000000 in
set_option maxRecDepth 100000 in
theorem d_b (F : LC p l s m meth c b L xs cg D) {k n v w : Nat} {z : Int} {st1 : Nat → Nat → Int} (hk : k < 24) (hn : n < 16777216) (hv : v = n % 3) (hw : w = n % 2) (hcs : cells + 1 ≤ 600104 ∧ slots + 6 ≤ 7301314) (hS : NS bk k) (hX : XI st bk) (hp : ((w = 0 ∧ (0 ≤ z ∧ z < 60) ∧ XI st1 (entM bk ((v : Nat) : Int) ((n / 6 % 1825 : Nat) : Int) ((1 + n % 1000 : Nat) : Int) ((n % 1000001 : Nat) : Int) 0)) ∨ (w = 1 ∧ (0 ≤ z ∧ z < 60) ∧ XI st1 (entM bk ((v : Nat) : Int) ((n / 6 % 1825 : Nat) : Int) ((1 + n % 1000 : Nat) : Int) ((n % 1000001 : Nat) : Int) 1)) ∨ (w = 1 ∧ z = -93 ∧ st1 = st))) (hl : lv_has ls 6 [(5, .int (iI z)), (4, .int (iI (bH bk v 1824))), (3, .int (iI ((n : Nat) : Int))), (2, .int (iI ((k : Nat) : Int))), (1, .ref (ad 0)), (0, .ref b)]) (hW : GW D vwCl 73 (celX cg) ad (fun q => s.heap.size ≤ q) s.heap st1 H locs)
    (kk : ∀ (bk st : Nat → Nat → Int) (H : Heap) (locs : List Loc), NS bk (k + 1) → XI st bk → GW D vwCl 73 (celX cg) ad (fun q => s.heap.size ≤ q) s.heap st H locs → W p l e room_1 s m #[Value.ref b] below meth c H locs cells slots Q (F0 m 164 ls [])) : W p l e room_1 s m #[Value.ref b] below meth c H locs cells slots Q (F0 m 101 ls []) := by
  obtain ⟨hx, hb, hr, hml, hown, hts, hXs, hbl, hlocks, hst, hK, hN, hxK, hxZ, hxN, hL⟩ := id F
  have hr1 := NS.rng hX (show v < 3 by omega) 1824
  rcases hp with ⟨hw0, hz, hp⟩ | ⟨hw0, hz, hp⟩ | ⟨hw0, hz, hp⟩
  · skip
    have hX1 := hp
    have hS1 := hS.ent ((v : Nat) : Int) ((n / 6 % 1825 : Nat) : Int) ((1 + n % 1000 : Nat) : Int) ((n % 1000001 : Nat) : Int) 0
    have hr2 := NS.rng hX1 (show v < 3 by omega) 1824
    have hr3 := hS.after (show v < 3 by omega) (d := ((n / 6 % 1825 : Nat) : Int)) (ct := ((1 + n % 1000 : Nat) : Int)) (mo := ((n % 1000001 : Nat) : Int)) (sa := 0) (by omega)
    rw [if_pos rfl] at hr3
    refine lv_iload_n hx hb dL_law_101 rfl (lv_at hl 2 rfl) ?_
    refine mk_iconst hx hb (2) dL_law_102 ?_
    refine mk_irem hx hb dL_law_103 (by omega) (by omega) ?_
    refine mk_sayi (y := ((w : Nat) : Int)) (by omega) ?_
    refine mk_if_ne (tgt := 130) hx hb dL_law_104 (by decide) (by omega) (fun h => absurd h (by omega)) (fun _ => ?_)
    refine lv_iload hx hb dL_law_107 (lv_at hl 0 rfl) ?_
    refine mk_if_lt (tgt := 162) hx hb dL_law_109 (by decide) (by omega) (fun h => absurd h (by omega)) (fun _ => ?_)
    refine lv_aload_n hx hb dL_law_112 rfl (lv_at hl 4 rfl) ?_
    refine lv_iload_n hx hb dL_law_113 rfl (lv_at hl 2 rfl) ?_
    refine mk_iconst hx hb (3) dL_law_114 ?_
    refine mk_irem hx hb dL_law_115 (by omega) (by omega) ?_
    refine mk_sayi (y := ((v : Nat) : Int)) (by omega) ?_
    refine mk_sipush hx hb (1824) (by decide +kernel) dL_law_116 ?_
    refine mk_goI (va_runV (As := [.int (iI ((v : Nat) : Int)), .int (iI 1824)]) (rest := []) ⟨hx, hb, hml, hown, hts⟩ (g_holding l cg D ad st1 (entM bk ((v : Nat) : Int) ((n / 6 % 1825 : Nat) : Int) ((1 + n % 1000 : Nat) : Int) ((n % 1000001 : Nat) : Int) 0) hX1 v (by omega) 1824 (by decide)) (cwV 2 hts gL_law_X5_holding rfl rfl rfl (by decide +kernel) ⟨Nat.le_of_ble_eq_true rfl, Nat.le_of_ble_eq_true rfl⟩) (mk_preV hK hN hW 0 (by decide) rfl rfl rfl) rfl rfl hl.1 rfl (lv_room (Nat.le_of_ble_eq_true rfl)) dL_law_119 ⟨by show cells ≤ 600104; omega, by show slots ≤ 7301314; omega⟩) hW (fun z2 st2 hp2 H locs hW => ?_)
    obtain ⟨e1, e2⟩ := hp2
    rw [e1] at hW
    refine mk_sayi (y := (bH (entM bk ((v : Nat) : Int) ((n / 6 % 1825 : Nat) : Int) ((1 + n % 1000 : Nat) : Int) ((n % 1000001 : Nat) : Int) 0) v 1824)) (e2.trans (hS1.hold (by omega) 1824)) ?_
    refine lv_iload hx hb dL_law_122 (lv_at hl 1 rfl) ?_
    refine mk_icmp_gt (tgt := 164) hx hb dL_law_124 (by decide) (by omega) (by omega) (fun _ => ?_) (fun h => absurd h (by omega))
    exact kk _ _ _ _ hS1 hX1 hW
  · skip
    have hX1 := hp
    have hS1 := hS.ent ((v : Nat) : Int) ((n / 6 % 1825 : Nat) : Int) ((1 + n % 1000 : Nat) : Int) ((n % 1000001 : Nat) : Int) 1
    have hr2 := NS.rng hX1 (show v < 3 by omega) 1824
    have hr3 := hS.after (show v < 3 by omega) (d := ((n / 6 % 1825 : Nat) : Int)) (ct := ((1 + n % 1000 : Nat) : Int)) (mo := ((n % 1000001 : Nat) : Int)) (sa := 1) (by omega)
    rw [if_neg (by decide)] at hr3
    refine lv_iload_n hx hb dL_law_101 rfl (lv_at hl 2 rfl) ?_
    refine mk_iconst hx hb (2) dL_law_102 ?_
    refine mk_irem hx hb dL_law_103 (by omega) (by omega) ?_
    refine mk_sayi (y := ((w : Nat) : Int)) (by omega) ?_
    refine mk_if_ne (tgt := 130) hx hb dL_law_104 (by decide) (by omega) (fun _ => ?_) (fun h => absurd h (by omega))
    refine lv_iload hx hb dL_law_130 (lv_at hl 0 rfl) ?_
    refine mk_if_ge (tgt := 142) hx hb dL_law_132 (by decide) (by omega) (fun _ => ?_) (fun h => absurd h (by omega))
    refine lv_iload hx hb dL_law_142 (lv_at hl 0 rfl) ?_
    refine mk_if_lt (tgt := 164) hx hb dL_law_144 (by decide) (by omega) (fun h => absurd h (by omega)) (fun _ => ?_)
    refine lv_aload_n hx hb dL_law_147 rfl (lv_at hl 4 rfl) ?_
    refine lv_iload_n hx hb dL_law_148 rfl (lv_at hl 2 rfl) ?_
    refine mk_iconst hx hb (3) dL_law_149 ?_
    refine mk_irem hx hb dL_law_150 (by omega) (by omega) ?_
    refine mk_sayi (y := ((v : Nat) : Int)) (by omega) ?_
    refine mk_sipush hx hb (1824) (by decide +kernel) dL_law_151 ?_
    refine mk_goI (va_runV (As := [.int (iI ((v : Nat) : Int)), .int (iI 1824)]) (rest := []) ⟨hx, hb, hml, hown, hts⟩ (g_holding l cg D ad st1 (entM bk ((v : Nat) : Int) ((n / 6 % 1825 : Nat) : Int) ((1 + n % 1000 : Nat) : Int) ((n % 1000001 : Nat) : Int) 1) hX1 v (by omega) 1824 (by decide)) (cwV 2 hts gL_law_X5_holding rfl rfl rfl (by decide +kernel) ⟨Nat.le_of_ble_eq_true rfl, Nat.le_of_ble_eq_true rfl⟩) (mk_preV hK hN hW 0 (by decide) rfl rfl rfl) rfl rfl hl.1 rfl (lv_room (Nat.le_of_ble_eq_true rfl)) dL_law_154 ⟨by show cells ≤ 600104; omega, by show slots ≤ 7301314; omega⟩) hW (fun z2 st2 hp2 H locs hW => ?_)
    obtain ⟨e1, e2⟩ := hp2
    rw [e1] at hW
    refine mk_sayi (y := (bH (entM bk ((v : Nat) : Int) ((n / 6 % 1825 : Nat) : Int) ((1 + n % 1000 : Nat) : Int) ((n % 1000001 : Nat) : Int) 1) v 1824)) (e2.trans (hS1.hold (by omega) 1824)) ?_
    refine lv_iload hx hb dL_law_157 (lv_at hl 1 rfl) ?_
    refine mk_icmp_lt (tgt := 164) hx hb dL_law_159 (by decide) (by omega) (by omega) (fun _ => ?_) (fun h => absurd h (by omega))
    exact kk _ _ _ _ hS1 hX1 hW
  · skip
    refine lv_iload_n hx hb dL_law_101 rfl (lv_at hl 2 rfl) ?_
    refine mk_iconst hx hb (2) dL_law_102 ?_
    refine mk_irem hx hb dL_law_103 (by omega) (by omega) ?_
    refine mk_sayi (y := ((w : Nat) : Int)) (by omega) ?_
    refine mk_if_ne (tgt := 130) hx hb dL_law_104 (by decide) (by omega) (fun _ => ?_) (fun h => absurd h (by omega))
    refine lv_iload hx hb dL_law_130 (lv_at hl 0 rfl) ?_
    refine mk_if_ge (tgt := 142) hx hb dL_law_132 (by decide) (by omega) (fun h => absurd h (by omega)) (fun _ => ?_)
    refine lv_iload hx hb dL_law_135 (lv_at hl 0 rfl) ?_
    refine mk_bipush hx hb (-93) (by decide +kernel) dL_law_137 ?_
    refine mk_icmp_ne (tgt := 162) hx hb dL_law_139 (by decide) (by omega) (by omega) (fun h => absurd h (by omega)) (fun _ => ?_)
    refine lv_iload hx hb dL_law_142 (lv_at hl 0 rfl) ?_
    refine mk_if_lt (tgt := 164) hx hb dL_law_144 (by decide) (by omega) (fun _ => ?_) (fun h => absurd h (by omega))
    rw [hp] at hW
    exact kk _ _ _ _ hS.up hX hW
set_option maxHeartbeats 4000000 in
set_option maxRecDepth 100000 in
theorem d_c (F : LC p l s m meth c b L xs cg D) {k n v : Nat} {z hd : Int} (hk : k < 24) (hcs : cells + 164 ≤ 600104 ∧ slots + 984 ≤ 7301314) (hX : XI st bk) (hl : lv_has ls 6 [(5, .int (iI z)), (4, .int (iI (hd))), (3, .int (iI ((n : Nat) : Int))), (2, .int (iI ((k : Nat) : Int))), (1, .ref (ad 0)), (0, .ref b)]) (hW : GW D vwCl 73 (celX cg) ad (fun q => s.heap.size ≤ q) s.heap st H locs)
    (kk : ∀ (ls : Array Slot) (H : Heap) (locs : List Loc), lv_has ls 6 [(2, .int (iI ((k + 1 : Nat) : Int))), (1, .ref (ad 0)), (0, .ref b)] → GW D vwCl 73 (celX cg) ad (fun q => s.heap.size ≤ q) s.heap st H locs → W p l e room_1 s m #[Value.ref b] below meth c H locs (cells + 164) (slots + 984) Q (F0 m 30 ls [])) : W p l e room_1 s m #[Value.ref b] below meth c H locs cells slots Q (F0 m 164 ls []) := by
  obtain ⟨hx, hb, hr, hml, hown, hts, hXs, hbl, hlocks, hst, hK, hN, hxK, hxZ, hxN, hL⟩ := id F
  refine lv_iload_n hx hb dL_law_164 rfl (lv_at hl 3 rfl) ?_
  refine mk_bipush hx hb (6) (by decide +kernel) dL_law_165 ?_
  refine mk_irem hx hb dL_law_167 (by omega) (by omega) ?_
  refine mk_if_ne (tgt := 180) hx hb dL_law_168 (by decide) (by omega) (fun _ => ?_) (fun _ => ?_)
  · skip
    refine W.widen (k := cells + 164) (n := slots + 984) (by omega) (by omega) ?_
    refine mk_iinc (w := ((k + 1 : Nat) : Int)) (lv' := [(2, .int (iI ((k + 1 : Nat) : Int))), (5, .int (iI z)), (4, .int (iI hd)), (3, .int (iI ((n : Nat) : Int))), (1, .ref (ad 0)), (0, .ref b)]) hx hb dL_law_180 hl (k := 3) rfl (by omega) (by decide) rfl (fun ls hl => ?_)
    refine lv_goto (tgt := 30) hx hb dL_law_183 (by decide) ?_
    exact kk _ _ _ (lv_sub hl [0, 4, 5] rfl) hW
  · skip
    refine lv_aload_n hx hb dL_law_171 rfl (lv_at hl 4 rfl) ?_
    refine mw_goIs (va_runS (As := [.ref (ad 0)]) (rest := []) ⟨hx, hb, hml, hown, hts⟩ (c_L_refuses l cg D ad st hst bk hX) (cwS 1 hts gL_law_L_refuses rfl rfl rfl (by decide +kernel) ⟨Nat.le_of_ble_eq_true rfl, Nat.le_of_ble_eq_true rfl⟩) (mw_preS hK hN hxK hxZ hxN hW) rfl rfl hl.1 rfl (lv_room (Nat.le_of_ble_eq_true rfl)) dL_law_172 ⟨by show cells + 164 ≤ 600104; omega, by show slots + 984 ≤ 7301314; omega⟩) hW (fun z3 st3 hp H locs hW => ?_)
    obtain ⟨e1, e2⟩ := hp
    rw [e2] at hW
    subst e1
    refine mk_if_ne (tgt := 180) hx hb dL_law_175 (by decide) (by decide) (fun _ => ?_) (fun h => absurd h (by decide))
    refine mk_iinc (w := ((k + 1 : Nat) : Int)) (lv' := [(2, .int (iI ((k + 1 : Nat) : Int))), (5, .int (iI z)), (4, .int (iI hd)), (3, .int (iI ((n : Nat) : Int))), (1, .ref (ad 0)), (0, .ref b)]) hx hb dL_law_180 hl (k := 3) rfl (by omega) (by decide) rfl (fun ls hl => ?_)
    refine lv_goto (tgt := 30) hx hb dL_law_183 (by decide) ?_
    exact kk _ _ _ (lv_sub hl [0, 4, 5] rfl) hW
set_option maxHeartbeats 4000000 in
set_option maxRecDepth 100000 in
theorem d_loop (F : LC p l s m meth c b L xs cg D) (kk : ∀ (ls : Array Slot) (st : Nat → Nat → Int) (H : Heap) (locs : List Loc), lv_has ls 6 [(2, .int (iI ((24 : Nat) : Int))), (1, .ref (ad 0)), (0, .ref b)] → GW D vwCl 73 (celX cg) ad (fun q => s.heap.size ≤ q) s.heap st H locs → W p l e room_1 s m #[Value.ref b] below meth c H locs (2000 + 165 * 24) (20000 + 990 * 24) Q (F0 m 30 ls [])) : ∀ (fuel k : Nat), 24 - k < fuel → k ≤ 24 → ∀ (ls : Array Slot) (bk st : Nat → Nat → Int) (H : Heap) (locs : List Loc), NS bk k → XI st bk → lv_has ls 6 [(2, .int (iI ((k : Nat) : Int))), (1, .ref (ad 0)), (0, .ref b)] → GW D vwCl 73 (celX cg) ad (fun q => s.heap.size ≤ q) s.heap st H locs → W p l e room_1 s m #[Value.ref b] below meth c H locs (2000 + 165 * k) (20000 + 990 * k) Q (F0 m 30 ls []) := by
  intro fuel
  induction fuel with
  | zero => intro k h; omega
  | succ fuel ih =>
    intro k hf hk ls bk st H locs hS hX hl hW
    by_cases hq : k = 24
    · subst hq; exact kk ls st H locs hl hW
    · refine d_x F (by omega) hl hW (fun n ls hn hl => ?_)
      refine d_a F (v := n % 3) (w := n % 2) (by omega) hn rfl rfl ⟨by omega, by omega⟩ hS hX hl hW (fun z st1 ls H locs hp hl hW => ?_)
      refine d_b F (v := n % 3) (w := n % 2) (by omega) hn rfl rfl ⟨by omega, by omega⟩ hS hX hp hl hW (fun bk st H locs hS hX hW => ?_)
      refine d_c F (v := n % 3) (by omega) ⟨by omega, by omega⟩ hX hl hW (fun ls H locs hl hW => ?_)
      refine W.widen (k := 2000 + 165 * (k + 1)) (n := 20000 + 990 * (k + 1)) (by omega) (by omega) ?_
      exact ih (k + 1) (by omega) (by omega) _ _ _ _ _ hS hX hl hW
end SG_law
