section MK2
variable {p : Program} {l : Launch} {e : Env} {R : Room} {s : State} {m : MethodId} {args : Array Value} {below : List Frame} {meth : Method} {c : Code} {H : Heap} {locs : List Loc} {cells slots : Nat} {Q : State → Prop}
variable {cc : ByteArray} {pc : Nat} {ls : Array Slot} {rest : List Value} {D : va_G} {cl : List vw_C} {A : Nat → Prop} {tys : List (ClassId × FieldType)} {H0 : Heap} {n : Nat} {cel : (Nat → Nat) → (Nat → Int) → Nat → va_E} {ad : Nat → Nat} {st : Nat → Nat → Int}
theorem iI_eq0 {x : Int} (hx : -2147483648 ≤ x ∧ x < 2147483648) : iI x = 0 ↔ x = 0 := by
  rw [show (0 : Int32) = iI 0 from rfl, iI_eq hx (by omega)]
theorem iI_lt0 {x : Int} (hx : -2147483648 ≤ x ∧ x < 2147483648) : iI x < 0 ↔ x < 0 := by
  rw [show (0 : Int32) = iI 0 from rfl, iI_lt hx (by omega)]
theorem iI_gt0 {x : Int} (hx : -2147483648 ≤ x ∧ x < 2147483648) : 0 < iI x ↔ 0 < x := by
  rw [show (0 : Int32) = iI 0 from rfl, iI_lt (by omega) hx]
theorem iI_le0 {x : Int} (hx : -2147483648 ≤ x ∧ x < 2147483648) : iI x ≤ 0 ↔ x ≤ 0 := by
  rw [show (0 : Int32) = iI 0 from rfl, iI_le hx (by omega)]
theorem iI_ge0 {x : Int} (hx : -2147483648 ≤ x ∧ x < 2147483648) : 0 ≤ iI x ↔ 0 ≤ x := by
  rw [show (0 : Int32) = iI 0 from rfl, iI_le (by omega) hx]
theorem mk_icmp_eq (hexec : p.tables.exec = Jvm.exec) (hb : c.code = cc) {x y : Int} {off : Int} {tgt : Nat} (hdg : decode cc pc = .ok (.if_icmp .eq off, 3)) (ht : (pc : Int) + off = (tgt : Int)) (rx : -2147483648 ≤ x ∧ x < 2147483648) (ry : -2147483648 ≤ y ∧ y < 2147483648)
    (kt : x = y → W p l e R s m args below meth c H locs cells slots Q (F0 m tgt ls rest)) (kf : ¬ x = y → W p l e R s m args below meth c H locs cells slots Q (F0 m (pc + 3) ls rest)) : W p l e R s m args below meth c H locs cells slots Q (F0 m pc ls (.int (iI y) :: .int (iI x) :: rest)) :=
  lv_icmp_eq hexec hb hdg ht (fun h => kt ((iI_eq rx ry).mp h)) (fun h => kf (fun z => h ((iI_eq rx ry).mpr z)))
theorem mk_icmp_ne (hexec : p.tables.exec = Jvm.exec) (hb : c.code = cc) {x y : Int} {off : Int} {tgt : Nat} (hdg : decode cc pc = .ok (.if_icmp .ne off, 3)) (ht : (pc : Int) + off = (tgt : Int)) (rx : -2147483648 ≤ x ∧ x < 2147483648) (ry : -2147483648 ≤ y ∧ y < 2147483648)
    (kt : ¬ x = y → W p l e R s m args below meth c H locs cells slots Q (F0 m tgt ls rest)) (kf : x = y → W p l e R s m args below meth c H locs cells slots Q (F0 m (pc + 3) ls rest)) : W p l e R s m args below meth c H locs cells slots Q (F0 m pc ls (.int (iI y) :: .int (iI x) :: rest)) :=
  lv_icmp_ne hexec hb hdg ht (fun h => kt ((not_congr (iI_eq rx ry)).mp h)) (fun h => kf ((iI_eq rx ry).mp h))
theorem mk_icmp_lt (hexec : p.tables.exec = Jvm.exec) (hb : c.code = cc) {x y : Int} {off : Int} {tgt : Nat} (hdg : decode cc pc = .ok (.if_icmp .lt off, 3)) (ht : (pc : Int) + off = (tgt : Int)) (rx : -2147483648 ≤ x ∧ x < 2147483648) (ry : -2147483648 ≤ y ∧ y < 2147483648)
    (kt : x < y → W p l e R s m args below meth c H locs cells slots Q (F0 m tgt ls rest)) (kf : ¬ x < y → W p l e R s m args below meth c H locs cells slots Q (F0 m (pc + 3) ls rest)) : W p l e R s m args below meth c H locs cells slots Q (F0 m pc ls (.int (iI y) :: .int (iI x) :: rest)) :=
  lv_icmp_lt hexec hb hdg ht (fun h => kt ((iI_lt rx ry).mp h)) (fun h => kf (fun z => h ((iI_lt rx ry).mpr z)))
theorem mk_icmp_ge (hexec : p.tables.exec = Jvm.exec) (hb : c.code = cc) {x y : Int} {off : Int} {tgt : Nat} (hdg : decode cc pc = .ok (.if_icmp .ge off, 3)) (ht : (pc : Int) + off = (tgt : Int)) (rx : -2147483648 ≤ x ∧ x < 2147483648) (ry : -2147483648 ≤ y ∧ y < 2147483648)
    (kt : y ≤ x → W p l e R s m args below meth c H locs cells slots Q (F0 m tgt ls rest)) (kf : ¬ y ≤ x → W p l e R s m args below meth c H locs cells slots Q (F0 m (pc + 3) ls rest)) : W p l e R s m args below meth c H locs cells slots Q (F0 m pc ls (.int (iI y) :: .int (iI x) :: rest)) :=
  lv_icmp_ge hexec hb hdg ht (fun h => kt ((iI_le ry rx).mp h)) (fun h => kf (fun z => h ((iI_le ry rx).mpr z)))
theorem mk_icmp_gt (hexec : p.tables.exec = Jvm.exec) (hb : c.code = cc) {x y : Int} {off : Int} {tgt : Nat} (hdg : decode cc pc = .ok (.if_icmp .gt off, 3)) (ht : (pc : Int) + off = (tgt : Int)) (rx : -2147483648 ≤ x ∧ x < 2147483648) (ry : -2147483648 ≤ y ∧ y < 2147483648)
    (kt : y < x → W p l e R s m args below meth c H locs cells slots Q (F0 m tgt ls rest)) (kf : ¬ y < x → W p l e R s m args below meth c H locs cells slots Q (F0 m (pc + 3) ls rest)) : W p l e R s m args below meth c H locs cells slots Q (F0 m pc ls (.int (iI y) :: .int (iI x) :: rest)) :=
  lv_icmp_gt hexec hb hdg ht (fun h => kt ((iI_lt ry rx).mp h)) (fun h => kf (fun z => h ((iI_lt ry rx).mpr z)))
theorem mk_icmp_le (hexec : p.tables.exec = Jvm.exec) (hb : c.code = cc) {x y : Int} {off : Int} {tgt : Nat} (hdg : decode cc pc = .ok (.if_icmp .le off, 3)) (ht : (pc : Int) + off = (tgt : Int)) (rx : -2147483648 ≤ x ∧ x < 2147483648) (ry : -2147483648 ≤ y ∧ y < 2147483648)
    (kt : x ≤ y → W p l e R s m args below meth c H locs cells slots Q (F0 m tgt ls rest)) (kf : ¬ x ≤ y → W p l e R s m args below meth c H locs cells slots Q (F0 m (pc + 3) ls rest)) : W p l e R s m args below meth c H locs cells slots Q (F0 m pc ls (.int (iI y) :: .int (iI x) :: rest)) :=
  lv_icmp_le hexec hb hdg ht (fun h => kt ((iI_le rx ry).mp h)) (fun h => kf (fun z => h ((iI_le rx ry).mpr z)))
theorem mk_if_eq (hexec : p.tables.exec = Jvm.exec) (hb : c.code = cc) {x : Int} {off : Int} {tgt : Nat} (hdg : decode cc pc = .ok (.ifCond .eq off, 3)) (ht : (pc : Int) + off = (tgt : Int)) (rx : -2147483648 ≤ x ∧ x < 2147483648)
    (kt : x = 0 → W p l e R s m args below meth c H locs cells slots Q (F0 m tgt ls rest)) (kf : ¬ x = 0 → W p l e R s m args below meth c H locs cells slots Q (F0 m (pc + 3) ls rest)) : W p l e R s m args below meth c H locs cells slots Q (F0 m pc ls (.int (iI x) :: rest)) :=
  lv_if_eq hexec hb hdg ht (fun h => kt ((iI_eq0 rx).mp h)) (fun h => kf (fun z => h ((iI_eq0 rx).mpr z)))
theorem mk_if_ne (hexec : p.tables.exec = Jvm.exec) (hb : c.code = cc) {x : Int} {off : Int} {tgt : Nat} (hdg : decode cc pc = .ok (.ifCond .ne off, 3)) (ht : (pc : Int) + off = (tgt : Int)) (rx : -2147483648 ≤ x ∧ x < 2147483648)
    (kt : ¬ x = 0 → W p l e R s m args below meth c H locs cells slots Q (F0 m tgt ls rest)) (kf : x = 0 → W p l e R s m args below meth c H locs cells slots Q (F0 m (pc + 3) ls rest)) : W p l e R s m args below meth c H locs cells slots Q (F0 m pc ls (.int (iI x) :: rest)) :=
  lv_if_ne hexec hb hdg ht (fun h => kt ((not_congr (iI_eq0 rx)).mp h)) (fun h => kf ((iI_eq0 rx).mp h))
theorem mk_if_lt (hexec : p.tables.exec = Jvm.exec) (hb : c.code = cc) {x : Int} {off : Int} {tgt : Nat} (hdg : decode cc pc = .ok (.ifCond .lt off, 3)) (ht : (pc : Int) + off = (tgt : Int)) (rx : -2147483648 ≤ x ∧ x < 2147483648)
    (kt : x < 0 → W p l e R s m args below meth c H locs cells slots Q (F0 m tgt ls rest)) (kf : ¬ x < 0 → W p l e R s m args below meth c H locs cells slots Q (F0 m (pc + 3) ls rest)) : W p l e R s m args below meth c H locs cells slots Q (F0 m pc ls (.int (iI x) :: rest)) :=
  lv_if_lt hexec hb hdg ht (fun h => kt ((iI_lt0 rx).mp h)) (fun h => kf (fun z => h ((iI_lt0 rx).mpr z)))
theorem mk_if_ge (hexec : p.tables.exec = Jvm.exec) (hb : c.code = cc) {x : Int} {off : Int} {tgt : Nat} (hdg : decode cc pc = .ok (.ifCond .ge off, 3)) (ht : (pc : Int) + off = (tgt : Int)) (rx : -2147483648 ≤ x ∧ x < 2147483648)
    (kt : 0 ≤ x → W p l e R s m args below meth c H locs cells slots Q (F0 m tgt ls rest)) (kf : ¬ 0 ≤ x → W p l e R s m args below meth c H locs cells slots Q (F0 m (pc + 3) ls rest)) : W p l e R s m args below meth c H locs cells slots Q (F0 m pc ls (.int (iI x) :: rest)) :=
  lv_if_ge hexec hb hdg ht (fun h => kt ((iI_ge0 rx).mp h)) (fun h => kf (fun z => h ((iI_ge0 rx).mpr z)))
theorem mk_if_gt (hexec : p.tables.exec = Jvm.exec) (hb : c.code = cc) {x : Int} {off : Int} {tgt : Nat} (hdg : decode cc pc = .ok (.ifCond .gt off, 3)) (ht : (pc : Int) + off = (tgt : Int)) (rx : -2147483648 ≤ x ∧ x < 2147483648)
    (kt : 0 < x → W p l e R s m args below meth c H locs cells slots Q (F0 m tgt ls rest)) (kf : ¬ 0 < x → W p l e R s m args below meth c H locs cells slots Q (F0 m (pc + 3) ls rest)) : W p l e R s m args below meth c H locs cells slots Q (F0 m pc ls (.int (iI x) :: rest)) :=
  lv_if_gt hexec hb hdg ht (fun h => kt ((iI_gt0 rx).mp h)) (fun h => kf (fun z => h ((iI_gt0 rx).mpr z)))
theorem mk_if_le (hexec : p.tables.exec = Jvm.exec) (hb : c.code = cc) {x : Int} {off : Int} {tgt : Nat} (hdg : decode cc pc = .ok (.ifCond .le off, 3)) (ht : (pc : Int) + off = (tgt : Int)) (rx : -2147483648 ≤ x ∧ x < 2147483648)
    (kt : x ≤ 0 → W p l e R s m args below meth c H locs cells slots Q (F0 m tgt ls rest)) (kf : ¬ x ≤ 0 → W p l e R s m args below meth c H locs cells slots Q (F0 m (pc + 3) ls rest)) : W p l e R s m args below meth c H locs cells slots Q (F0 m pc ls (.int (iI x) :: rest)) :=
  lv_if_le hexec hb hdg ht (fun h => kt ((iI_le0 rx).mp h)) (fun h => kf (fun z => h ((iI_le0 rx).mpr z)))
theorem lcm_i (x y : Int64) : lg_cmp x y = iI (if x < y then -1 else if x = y then 0 else 1) := by
  unfold lg_cmp; simp only [gt_iff_lt, Int64.lt_iff_toInt_lt, ← Int64.toInt_inj]; (repeat' split) <;> first | rfl | omega
theorem mk_lcmp (hexec : p.tables.exec = Jvm.exec) (hb : c.code = cc) {x y : Int} (hdg : decode cc pc = .ok (.lcmp, 1)) (rx : -9223372036854775808 ≤ x ∧ x < 9223372036854775808) (ry : -9223372036854775808 ≤ y ∧ y < 9223372036854775808)
    (k : ∀ z : Int, (z < 0 ↔ x < y) → (z = 0 ↔ x = y) → (0 < z ↔ y < x) → (-1 ≤ z ∧ z ≤ 1) → W p l e R s m args below meth c H locs cells slots Q (F0 m (pc + 1) ls (.int (iI z) :: rest))) : W p l e R s m args below meth c H locs cells slots Q (F0 m pc ls (.long (lI y) :: .long (lI x) :: rest)) := by
  refine W.lcmp hexec hb hdg ?_
  rw [lcm_i]
  have h1 := lI_lt rx ry
  have h2 := lI_eq rx ry
  refine k _ ?_ ?_ ?_ ?_
  · by_cases q : x < y
    · simp [h1, q]
    · by_cases q2 : x = y
      · simp [h1, q, h2, q2]
      · simp [h1, q, h2, q2]
  · by_cases q : x < y
    · simp [h1, q]; omega
    · by_cases q2 : x = y
      · simp [h1, q, h2, q2]
      · simp [h1, q, h2, q2]
  · by_cases q : x < y
    · simp [h1, q]; omega
    · by_cases q2 : x = y
      · simp [h1, q, h2, q2]
      · simp [h1, q, h2, q2]; omega
  · by_cases q : x < y
    · simp [h1, q]
    · by_cases q2 : x = y
      · simp [h1, q, h2, q2]
      · simp [h1, q, h2, q2]
theorem mk_iinc (hexec : p.tables.exec = Jvm.exec) (hb : c.code = cc) {i nL k : Nat} {z x w : Int} {lv lv' : List (Nat × Value)} (hdg : decode cc pc = .ok (.iinc i z, 3)) (h : lv_has ls nL lv) (hk : lv[k]? = some (i, .int (iI x))) (hw : x + z = w) (hn : i < nL) (hl : (i, Value.int (iI w)) :: lv.filter (fun q => !(q.1 == i) && !(q.1 + 1 == i && q.2.category == 2)) = lv')
    (kk : ∀ ls' : Array Slot, lv_has ls' nL lv' → W p l e R s m args below meth c H locs cells slots Q (F0 m (pc + 3) ls' rest)) : W p l e R s m args below meth c H locs cells slots Q (F0 m pc ls rest) :=
  lv_iinc (v := iI w) hexec hb hdg h hk (by rw [← hw, ← iI_add]; rfl) hn hl kk
theorem iI_or {x y : Int} (hx : x = 0 ∨ x = 1) (hy : y = 0 ∨ y = 1) : iI x ||| iI y = iI (max x y) := by
  rcases hx with rfl | rfl <;> rcases hy with rfl | rfl <;> rfl
theorem mk_ior (hexec : p.tables.exec = Jvm.exec) (hb : c.code = cc) {x y : Int} (hdg : decode cc pc = .ok (.ior, 1)) (hx : x = 0 ∨ x = 1) (hy : y = 0 ∨ y = 1) (k : W p l e R s m args below meth c H locs cells slots Q (F0 m (pc + 1) ls (.int (iI (max x y)) :: rest))) : W p l e R s m args below meth c H locs cells slots Q (F0 m pc ls (.int (iI y) :: .int (iI x) :: rest)) := lv_ior hexec hb hdg (by rw [iI_or hx hy]; exact k)
theorem mk_iald (hexec : p.tables.exec = Jvm.exec) (hb : c.code = cc) (hK : va_K D cl tys s) (hW : GW D cl n cel ad A H0 st H locs) (k : Nat) (hk : k < n) {cA : ClassId} {N : Nat} (hc : cel ad (st k) k = .inl (cA, N, .inl (fun j => iI (st k j)))) (t0 : Nat) (ht : tys[t0]? = some (cA, .int)) {i : Int} (j : Nat) (hi : i = (j : Int)) (hj : j < N) (hN : N < 2147483648) (hdg : decode cc pc = .ok (.iaload, 1))
    (kk : W p l e R s m args below meth c H locs cells slots Q (F0 m (pc + 1) ls (.int (iI (st k j)) :: rest))) : W p l e R s m args below meth c H locs cells slots Q (F0 m pc ls (.int (iI i) :: .ref (ad k) :: rest)) := by
  subst hi
  refine va_iald hexec hb hK hW.1 k t0 ((wl_get hk).trans (by rw [hc])) ht (iI_in hj hN) hdg ?_
  rw [iI_clamp (by omega)]
  exact kk
theorem mk_zald (hexec : p.tables.exec = Jvm.exec) (hb : c.code = cc) (hK : va_K D cl tys s) (hW : GW D cl n cel ad A H0 st H locs) (k : Nat) (hk : k < n) {cA : ClassId} {N : Nat} (hc : cel ad (st k) k = .inl (cA, N, .inl (fun j => iI (st k j)))) (t0 : Nat) (ht : tys[t0]? = some (cA, .boolean)) {i : Int} (j : Nat) (hi : i = (j : Int)) (hj : j < N) (hN : N < 2147483648) (hdg : decode cc pc = .ok (.baload, 1))
    (kk : W p l e R s m args below meth c H locs cells slots Q (F0 m (pc + 1) ls (.int (iI (st k j)) :: rest))) : W p l e R s m args below meth c H locs cells slots Q (F0 m pc ls (.int (iI i) :: .ref (ad k) :: rest)) := by
  subst hi
  refine va_zald hexec hb hK hW.1 k t0 ((wl_get hk).trans (by rw [hc])) ht (iI_in hj hN) hdg ?_
  rw [iI_clamp (by omega)]
  exact kk
theorem mk_lald (hexec : p.tables.exec = Jvm.exec) (hb : c.code = cc) (hK : va_K D cl tys s) (hW : GW D cl n cel ad A H0 st H locs) (k : Nat) (hk : k < n) {cA : ClassId} {N : Nat} (hc : cel ad (st k) k = .inl (cA, N, .inr (.inl (fun j => lI (st k j))))) (t0 : Nat) (ht : tys[t0]? = some (cA, .long)) {i : Int} (j : Nat) (hi : i = (j : Int)) (hj : j < N) (hN : N < 2147483648) (hdg : decode cc pc = .ok (.laload, 1))
    (kk : W p l e R s m args below meth c H locs cells slots Q (F0 m (pc + 1) ls (.long (lI (st k j)) :: rest))) : W p l e R s m args below meth c H locs cells slots Q (F0 m pc ls (.int (iI i) :: .ref (ad k) :: rest)) := by
  subst hi
  refine va_lald hexec hb hK hW.1 k t0 ((wl_get hk).trans (by rw [hc])) ht (iI_in hj hN) hdg ?_
  rw [iI_clamp (by omega)]
  exact kk
theorem updI_fn (f : Nat → Int) (j : Nat) (v : Int) : upd (fun q => iI (f q)) j (iI v) = fun q => iI (fnU f j v q) := by
  funext q
  by_cases h : q = j
  · subst h; simp [upd, fnU]
  · simp [upd, fnU, h]
theorem updL_fn (f : Nat → Int) (j : Nat) (v : Int) : vp_updL (fun q => lI (f q)) j (lI v) = fun q => lI (fnU f j v q) := by
  funext q
  by_cases h : q = j
  · subst h; simp [vp_updL, fnU]
  · simp [vp_updL, fnU, h]
theorem narZ {v : Int} (h : v = 0 ∨ v = 1) : vp_nar .boolean (iI v) = iI v := by
  rcases h with rfl | rfl <;> rfl
theorem mk_iast (hexec : p.tables.exec = Jvm.exec) (hb : c.code = cc) (hK : va_K D cl tys s) (hW : GW D cl n cel ad A H0 st H locs) (k : Nat) (hk : k < n) {cA : ClassId} {N : Nat} (hc : ∀ f : Nat → Int, cel ad f k = .inl (cA, N, .inl (fun j => iI (f j)))) (t0 : Nat) (ht : tys[t0]? = some (cA, .int)) {i v : Int} (j : Nat) (hi : i = (j : Int)) (hj : j < N) (hN : N < 2147483648) (hdg : decode cc pc = .ok (.iastore, 1))
    (kk : ∀ (H1 : Heap) (locs1 : List Loc), GW D cl n cel ad A H0 (stC st k (fnU (st k) j v)) H1 locs1 → W p l e R s m args below meth c H1 locs1 cells slots Q (F0 m (pc + 1) ls rest)) : W p l e R s m args below meth c H locs cells slots Q (F0 m pc ls (.int (iI v) :: .int (iI i) :: .ref (ad k) :: rest)) := by
  subst hi
  refine va_iast hexec hb hK hW.1 hW.2.1 hW.2.2 k t0 ((wl_get hk).trans (by rw [hc])) ht (iI_in hj hN) hdg (fun H1 locs1 h1 h2 h3 => ?_)
  rw [iI_clamp (by omega), updI_fn, wl_set (fnU (st k) j v) (hc _)] at h1 h2
  exact kk H1 locs1 ⟨h1, h2, h3⟩
theorem mk_zast (hexec : p.tables.exec = Jvm.exec) (hb : c.code = cc) (hK : va_K D cl tys s) (hW : GW D cl n cel ad A H0 st H locs) (k : Nat) (hk : k < n) {cA : ClassId} {N : Nat} (hc : ∀ f : Nat → Int, cel ad f k = .inl (cA, N, .inl (fun j => iI (f j)))) (t0 : Nat) (ht : tys[t0]? = some (cA, .boolean)) {i v : Int} (j : Nat) (hi : i = (j : Int)) (hj : j < N) (hN : N < 2147483648) (hz : v = 0 ∨ v = 1) (hdg : decode cc pc = .ok (.bastore, 1))
    (kk : ∀ (H1 : Heap) (locs1 : List Loc), GW D cl n cel ad A H0 (stC st k (fnU (st k) j v)) H1 locs1 → W p l e R s m args below meth c H1 locs1 cells slots Q (F0 m (pc + 1) ls rest)) : W p l e R s m args below meth c H locs cells slots Q (F0 m pc ls (.int (iI v) :: .int (iI i) :: .ref (ad k) :: rest)) := by
  subst hi
  refine va_zast hexec hb hK hW.1 hW.2.1 hW.2.2 k t0 ((wl_get hk).trans (by rw [hc])) ht (iI_in hj hN) hdg (fun H1 locs1 h1 h2 h3 => ?_)
  rw [iI_clamp (by omega), narZ hz, updI_fn, wl_set (fnU (st k) j v) (hc _)] at h1 h2
  exact kk H1 locs1 ⟨h1, h2, h3⟩
theorem mk_last (hexec : p.tables.exec = Jvm.exec) (hb : c.code = cc) (hK : va_K D cl tys s) (hW : GW D cl n cel ad A H0 st H locs) (k : Nat) (hk : k < n) {cA : ClassId} {N : Nat} (hc : ∀ f : Nat → Int, cel ad f k = .inl (cA, N, .inr (.inl (fun j => lI (f j))))) (t0 : Nat) (ht : tys[t0]? = some (cA, .long)) {i v : Int} (j : Nat) (hi : i = (j : Int)) (hj : j < N) (hN : N < 2147483648) (hdg : decode cc pc = .ok (.lastore, 1))
    (kk : ∀ (H1 : Heap) (locs1 : List Loc), GW D cl n cel ad A H0 (stC st k (fnU (st k) j v)) H1 locs1 → W p l e R s m args below meth c H1 locs1 cells slots Q (F0 m (pc + 1) ls rest)) : W p l e R s m args below meth c H locs cells slots Q (F0 m pc ls (.long (lI v) :: .int (iI i) :: .ref (ad k) :: rest)) := by
  subst hi
  refine va_last hexec hb hK hW.1 hW.2.1 hW.2.2 k t0 ((wl_get hk).trans (by rw [hc])) ht (iI_in hj hN) hdg (fun H1 locs1 h1 h2 h3 => ?_)
  rw [iI_clamp (by omega), updL_fn, wl_set (fnU (st k) j v) (hc _)] at h1 h2
  exact kk H1 locs1 ⟨h1, h2, h3⟩
theorem mk_get (hexec : p.tables.exec = Jvm.exec) (hb : c.code = cc) {own ref C : String} {T : u_T} {N ci index : Nat} {Ts : List Cond} (hts : ∀ w ∈ Ts, w.before args s = true) (hin : ∀ w ∈ u_ws C T N, w ∈ Ts) (hown : s.vm.findClass own = some m.cls) (hK : va_K D cl tys s) (hW : GW D cl n cel ad A H0 st H locs) (k : Nat) (hk : k < n) {fs : List Value} (hc : cel ad (st k) k = .inr (ci, fs)) (hcl : cl[ci]? = some (C, T, N)) (j : Nat) (hj : j < N) (hlink : (Cond.fieldLink own index ref (T j).2.1 (T j).2.2.1).before args s = true) (hsame : ∀ x, s.fieldFound? (T j).1 (T j).2.1 (T j).2.2.1 = some x → s.fieldFound? ref (T j).2.1 (T j).2.2.1 = some x) {v : Value} (hv : fs[j]? = some v) (hdg : decode cc pc = .ok (.getfield index, 3))
    (kk : W p l e R s m args below meth c H locs cells slots Q (F0 m (pc + 3) ls (v :: rest))) : W p l e R s m args below meth c H locs cells slots Q (F0 m pc ls (.ref (ad k) :: rest)) :=
  va_get hexec hb hts hin hown hK hW.1 k ((wl_get hk).trans (by rw [hc])) hcl j hj hlink hsame hv hdg kk
theorem mk_put (hexec : p.tables.exec = Jvm.exec) (hb : c.code = cc) {own ref C : String} {T : u_T} {N ci index : Nat} {Ts : List Cond} (hts : ∀ w ∈ Ts, w.before args s = true) (hin : ∀ w ∈ u_ws C T N, w ∈ Ts) (ty0 : Nat → FieldType) (hty : ∀ k, k < N → parseFieldDescriptor (T k).2.2.1 = some (ty0 k)) (hnm : ∀ a, a < N → ∀ b, b < N → a ≠ b → (T a).2.1 ≠ (T b).2.1) (hown : s.vm.findClass own = some m.cls) (hK : va_K D cl tys s) (hW : GW D cl n cel ad A H0 st H locs) (k : Nat) (hk : k < n) {fs : List Value} (hc : cel ad (st k) k = .inr (ci, fs)) (hcl : cl[ci]? = some (C, T, N)) (j : Nat) (hj : j < N) (hlink : (Cond.fieldLink own index ref (T j).2.1 (T j).2.2.1).before args s = true) (hsame : ∀ x, s.fieldFound? (T j).1 (T j).2.1 (T j).2.2.1 = some x → s.fieldFound? ref (T j).2.1 (T j).2.2.1 = some x) (hfin : (T j).2.2.2 = false) (hd : parseFieldDescriptor (T j).2.2.1 = some .int) (hl : j < fs.length) {v : Int} (hset : cel ad (fnU (st k) j v) k = .inr (ci, fs.set j (.int (iI v)))) (hdg : decode cc pc = .ok (.putfield index, 3))
    (kk : ∀ (H1 : Heap) (locs1 : List Loc), GW D cl n cel ad A H0 (stC st k (fnU (st k) j v)) H1 locs1 → W p l e R s m args below meth c H1 locs1 cells slots Q (F0 m (pc + 3) ls rest)) : W p l e R s m args below meth c H locs cells slots Q (F0 m pc ls (.int (iI v) :: .ref (ad k) :: rest)) := by
  refine va_put hexec hb hts hin ty0 hty hnm hown hK hW.1 hW.2.1 hW.2.2 k ((wl_get hk).trans (by rw [hc])) hcl j hj hlink hsame hfin (ty := .int) (v := .int (iI v)) hd rfl rfl hl hdg (fun H1 locs1 h1 h2 h3 => ?_)
  rw [wl_set (fnU (st k) j v) hset] at h1 h2
  exact kk H1 locs1 ⟨h1, h2, h3⟩
theorem mk_getN (hexec : p.tables.exec = Jvm.exec) (hb : c.code = cc) {own ref C host : String} {T : u_T} {N ci index : Nat} {Ts : List Cond} (hts : ∀ w ∈ Ts, w.before args s = true) (hin : ∀ w ∈ u_ws C T N, w ∈ Ts) (hown : s.vm.findClass own = some m.cls) (hK : va_K D cl tys s) (hW : GW D cl n cel ad A H0 st H locs) (k : Nat) (hk : k < n) {fs : List Value} (hc : cel ad (st k) k = .inr (ci, fs)) (hcl : cl[ci]? = some (C, T, N)) (j : Nat) (hj : j < N) (hlink : (Cond.fieldLinkNest own index ref (T j).2.1 (T j).2.2.1 host).before args s = true) (hsame : ∀ x, s.fieldFound? (T j).1 (T j).2.1 (T j).2.2.1 = some x → s.fieldFound? ref (T j).2.1 (T j).2.2.1 = some x) {v : Value} (hv : fs[j]? = some v) (hdg : decode cc pc = .ok (.getfield index, 3))
    (kk : W p l e R s m args below meth c H locs cells slots Q (F0 m (pc + 3) ls (v :: rest))) : W p l e R s m args below meth c H locs cells slots Q (F0 m pc ls (.ref (ad k) :: rest)) :=
  va_getN hexec hb hts hin hown hK hW.1 k ((wl_get hk).trans (by rw [hc])) hcl j hj hlink hsame hv hdg kk
theorem mk_putN (hexec : p.tables.exec = Jvm.exec) (hb : c.code = cc) {own ref C host : String} {T : u_T} {N ci index : Nat} {Ts : List Cond} (hts : ∀ w ∈ Ts, w.before args s = true) (hin : ∀ w ∈ u_ws C T N, w ∈ Ts) (ty0 : Nat → FieldType) (hty : ∀ k, k < N → parseFieldDescriptor (T k).2.2.1 = some (ty0 k)) (hnm : ∀ a, a < N → ∀ b, b < N → a ≠ b → (T a).2.1 ≠ (T b).2.1) (hown : s.vm.findClass own = some m.cls) (hK : va_K D cl tys s) (hW : GW D cl n cel ad A H0 st H locs) (k : Nat) (hk : k < n) {fs : List Value} (hc : cel ad (st k) k = .inr (ci, fs)) (hcl : cl[ci]? = some (C, T, N)) (j : Nat) (hj : j < N) (hlink : (Cond.fieldLinkNest own index ref (T j).2.1 (T j).2.2.1 host).before args s = true) (hsame : ∀ x, s.fieldFound? (T j).1 (T j).2.1 (T j).2.2.1 = some x → s.fieldFound? ref (T j).2.1 (T j).2.2.1 = some x) (hfin : (T j).2.2.2 = false) (hd : parseFieldDescriptor (T j).2.2.1 = some .int) (hl : j < fs.length) {v : Int} (hset : cel ad (fnU (st k) j v) k = .inr (ci, fs.set j (.int (iI v)))) (hdg : decode cc pc = .ok (.putfield index, 3))
    (kk : ∀ (H1 : Heap) (locs1 : List Loc), GW D cl n cel ad A H0 (stC st k (fnU (st k) j v)) H1 locs1 → W p l e R s m args below meth c H1 locs1 cells slots Q (F0 m (pc + 3) ls rest)) : W p l e R s m args below meth c H locs cells slots Q (F0 m pc ls (.int (iI v) :: .ref (ad k) :: rest)) := by
  refine va_putN hexec hb hts hin ty0 hty hnm hown hK hW.1 hW.2.1 hW.2.2 k ((wl_get hk).trans (by rw [hc])) hcl j hj hlink hsame hfin (ty := .int) (v := .int (iI v)) hd rfl rfl hl hdg (fun H1 locs1 h1 h2 h3 => ?_)
  rw [wl_set (fnU (st k) j v) hset] at h1 h2
  exact kk H1 locs1 ⟨h1, h2, h3⟩
theorem mk_aald (hexec : p.tables.exec = Jvm.exec) (hb : c.code = cc) (hK : va_K D cl tys s) (hW : GW D cl n cel ad A H0 st H locs) (k : Nat) (hk : k < n) {cA : ClassId} {C : String} {N : Nat} {g : Nat → Option Nat} (hc : cel ad (st k) k = .inl (cA, N, .inr (.inr (.inr (.inr g))))) (t0 : Nat) (ht : tys[t0]? = some (cA, .object C)) {i : Int} (j : Nat) (hi : i = (j : Int)) (hj : j < N) (hN : N < 2147483648) {a : Nat} (hg : g j = some a) (hdg : decode cc pc = .ok (.aaload, 1))
    (kk : W p l e R s m args below meth c H locs cells slots Q (F0 m (pc + 1) ls (.ref a :: rest))) : W p l e R s m args below meth c H locs cells slots Q (F0 m pc ls (.int (iI i) :: .ref (ad k) :: rest)) := by
  subst hi
  refine va_aldq hexec hb hK hW.1 k t0 ((wl_get hk).trans (by rw [hc])) ht (iI_in hj hN) hdg ?_
  rw [iI_clamp (by omega), hg]
  exact kk
theorem mk_pre {B : List Value} (hK : va_K D cl tys s) (hN : NW s) (hW : GW D cl n cel ad A H0 st H locs) : FrameBlind (va_Pc B (mP D cl tys n cel ad st)) ∧ ∀ U : State, U.heap = H → s.WarmedH U.vm → va_Pc B (mP D cl tys n cel ad st) B.toArray U :=
  ⟨mP_blind, fun U hU hWm => ⟨rfl, by show va_P D cl (wl n cel ad st) U.heap; rw [hU]; exact hW.1, va_K.moved hWm.alike hK, hW.2.1.weaken (fun _ _ _ _ => trivial), hN.warm hWm⟩⟩
theorem mk_preV {As : List Value} {C : String} (hK : va_K D cl tys s) (hN : NW s) (hW : GW D cl n cel ad A H0 st H locs) (k : Nat) (hk : k < n) {ci : Nat} {fs : List Value} {q : vw_C} (hc : cel ad (st k) k = .inr (ci, fs)) (hcl : cl[ci]? = some q) (hq : q.1 = C) : PreV s H C (ad k) (va_Pc (.ref (ad k) :: As) (mP D cl tys n cel ad st)) As := by
  subst hq
  exact ⟨mP_blind, va_recv hK hW.1 hcl ((wl_get hk).trans (by rw [hc])), fun U hU hWm => ⟨rfl, by show va_P D cl (wl n cel ad st) U.heap; rw [hU]; exact hW.1, va_K.moved hWm.alike hK, hW.2.1.weaken (fun _ _ _ _ => trivial), hN.warm hWm⟩⟩
theorem mk_preS {As : List Value} (hK : va_K D cl tys s) (hN : NW s) (hW : GW D cl n cel ad A H0 st H locs) : PreS s H (va_Pc As (mP D cl tys n cel ad st)) As :=
  ⟨mP_blind, fun U hU hWm => ⟨rfl, by show va_P D cl (wl n cel ad st) U.heap; rw [hU]; exact hW.1, va_K.moved hWm.alike hK, hW.2.1.weaken (fun _ _ _ _ => trivial), hN.warm hWm⟩⟩
theorem GW.behind {st1 : Nat → Nat → Int} {t : State} {H1 : Heap} {locs1 : List Loc} (hW : GW D cl n cel ad A H0 st H locs) (ht : t.heap = H1) (hB : mB D cl n cel ad st1 t) (hS : va_S A H0 H1 locs1) : GW D cl n cel ad A H0 st1 H1 locs1 := by
  refine ⟨by rw [← ht]; exact hB, ?_, hS⟩
  refine ⟨fun i j x y hi hj hxy => ?_, fun k q hk => ?_⟩
  · obtain ⟨h1, rfl⟩ := wl_of hi
    obtain ⟨h2, rfl⟩ := wl_of hj
    exact hW.2.1.1 i j _ _ (wl_get h1) (wl_get h2) hxy
  · obtain ⟨h1, rfl⟩ := wl_of hk
    exact hW.2.1.2 k (ad k, cel ad (st k) k) (wl_get h1)
theorem GW.all (hW : GW D cl n cel ad A H0 st H locs) : ∀ q, wA n ad q → A q := by
  rintro q ⟨k, hk, rfl⟩
  exact hW.2.1.2 k _ (wl_get hk)
theorem mk_goI {st0 : List Value} {a : Array Value} {post : Int → (Nat → Nat → Int) → Prop} (hr : va_Run p l e R s m args below meth c H locs cells slots 0 0 (F0 m pc ls st0) rest (va_Qi (fun (r : Int32) (u : Nat → Nat → Int) => ∃ z : Int, r = iI z ∧ post z u) (mB D cl n cel ad) (wA n ad) a) (wA n ad)) (hW : GW D cl n cel ad A H0 st H locs)
    (kk : ∀ (z : Int) (st1 : Nat → Nat → Int), post z st1 → ∀ (H1 : Heap) (locs1 : List Loc), GW D cl n cel ad A H0 st1 H1 locs1 → W p l e R s m args below meth c H1 locs1 cells slots Q (F0 m (pc + 3) ls (.int (iI z) :: rest))) : W p l e R s m args below meth c H locs cells slots Q (F0 m pc ls st0) := by
  refine va_calli hr hW.2.2 (fun q _ h => hW.all q h) hW.all (fun r u t H1 locs1 ht hvm hp hB hz hk hS => ?_)
  obtain ⟨z, rfl, hp⟩ := hp
  exact kk z u hp H1 locs1 (hW.behind ht hB hS)
theorem mk_goJ {st0 : List Value} {a : Array Value} {post : Int → (Nat → Nat → Int) → Prop} (hr : va_Run p l e R s m args below meth c H locs cells slots 0 0 (F0 m pc ls st0) rest (va_Ql (fun (r : Int64) (u : Nat → Nat → Int) => ∃ z : Int, r = lI z ∧ post z u) (mB D cl n cel ad) (wA n ad) a) (wA n ad)) (hW : GW D cl n cel ad A H0 st H locs)
    (kk : ∀ (z : Int) (st1 : Nat → Nat → Int), post z st1 → ∀ (H1 : Heap) (locs1 : List Loc), GW D cl n cel ad A H0 st1 H1 locs1 → W p l e R s m args below meth c H1 locs1 cells slots Q (F0 m (pc + 3) ls (.long (lI z) :: rest))) : W p l e R s m args below meth c H locs cells slots Q (F0 m pc ls st0) := by
  refine va_calll hr hW.2.2 (fun q _ h => hW.all q h) hW.all (fun r u t H1 locs1 ht hvm hp hB hz hk hS => ?_)
  obtain ⟨z, rfl, hp⟩ := hp
  exact kk z u hp H1 locs1 (hW.behind ht hB hS)
theorem mk_goV {st0 : List Value} {a : Array Value} {post : (Nat → Nat → Int) → Prop} (hr : va_Run p l e R s m args below meth c H locs cells slots 0 0 (F0 m pc ls st0) rest (va_Qv post (mB D cl n cel ad) (wA n ad) a) (wA n ad)) (hW : GW D cl n cel ad A H0 st H locs)
    (kk : ∀ (st1 : Nat → Nat → Int), post st1 → ∀ (H1 : Heap) (locs1 : List Loc), GW D cl n cel ad A H0 st1 H1 locs1 → W p l e R s m args below meth c H1 locs1 cells slots Q (F0 m (pc + 3) ls rest)) : W p l e R s m args below meth c H locs cells slots Q (F0 m pc ls st0) := by
  refine va_callv hr hW.2.2 (fun q _ h => hW.all q h) hW.all (fun u t H1 locs1 ht hvm hp hB hz hk hS => ?_)
  exact kk u hp H1 locs1 (hW.behind ht hB hS)
theorem mk_mmin (hexec : p.tables.exec = Jvm.exec) (hb : c.code = cc) (hml : c.maxLocals = ls.size) {own : String} {index : Nat} (hown : s.vm.findClass own = some m.cls) (hlink : (Cond.methodLink own index Lib.Math.min.name).before args s = true) (hstat : (Cond.static Lib.Math.min.name).before args s = true) (hini : (Cond.initialized "java/lang/Math").before args s = true) (hcode : (Cond.code Lib.Math.min.name Lib.Math.min.code 2 (some .int)).before args s = true)
    (hframes : 1 ≤ R.frames) (hlocals : (rest.map fun v => v.category).sum + 13 ≤ R.locals) (hc : cells ≤ R.cells) (hs : slots ≤ R.slots) {x y : Int} (hdg : decode cc pc = .ok (.invokestatic index, 3)) (rx : -2147483648 ≤ x ∧ x < 2147483648) (ry : -2147483648 ≤ y ∧ y < 2147483648)
    (kk : W p l e R s m args below meth c H locs cells slots Q (F0 m (pc + 3) ls (.int (iI (min x y)) :: rest))) : W p l e R s m args below meth c H locs cells slots Q (F0 m pc ls (.int (iI y) :: .int (iI x) :: rest)) := by
  refine va_mmin hexec hb hml hown hlink hstat hini hcode hframes hlocals hc hs hdg ?_
  refine W.eq (g2 := F0 m (pc + 3) ls (.int (iI (min x y)) :: rest)) ?_ kk
  congr 3
  by_cases h : y < x
  · rw [if_pos ((iI_lt ry rx).mpr h)]; congr 1; omega
  · rw [if_neg (fun z => h ((iI_lt ry rx).mp z))]; congr 1; omega
theorem mk_mmax (hexec : p.tables.exec = Jvm.exec) (hb : c.code = cc) (hml : c.maxLocals = ls.size) {own : String} {index : Nat} (hown : s.vm.findClass own = some m.cls) (hlink : (Cond.methodLink own index Lib.Math.max.name).before args s = true) (hstat : (Cond.static Lib.Math.max.name).before args s = true) (hini : (Cond.initialized "java/lang/Math").before args s = true) (hcode : (Cond.code Lib.Math.max.name Lib.Math.max.code 2 (some .int)).before args s = true)
    (hframes : 1 ≤ R.frames) (hlocals : (rest.map fun v => v.category).sum + 13 ≤ R.locals) (hc : cells ≤ R.cells) (hs : slots ≤ R.slots) {x y : Int} (hdg : decode cc pc = .ok (.invokestatic index, 3)) (rx : -2147483648 ≤ x ∧ x < 2147483648) (ry : -2147483648 ≤ y ∧ y < 2147483648)
    (kk : W p l e R s m args below meth c H locs cells slots Q (F0 m (pc + 3) ls (.int (iI (max x y)) :: rest))) : W p l e R s m args below meth c H locs cells slots Q (F0 m pc ls (.int (iI y) :: .int (iI x) :: rest)) := by
  refine va_mmax hexec hb hml hown hlink hstat hini hcode hframes hlocals hc hs hdg ?_
  refine W.eq (g2 := F0 m (pc + 3) ls (.int (iI (max x y)) :: rest)) ?_ kk
  congr 3
  by_cases h : x < y
  · rw [if_pos ((iI_lt rx ry).mpr h)]; congr 1; omega
  · rw [if_neg (fun z => h ((iI_lt rx ry).mp z))]; congr 1; omega
end MK2
