set_option maxHeartbeats 4000000 in
set_option maxRecDepth 100000 in
theorem whole_start {p : Program} {e : Env} {s : State} {m : MethodId} {below : List Frame} {meth : Method} {c : Code} (l : Launch) (hflags : l.flags = flags0) {b L : Nat} {xs : Nat → Int32} (hL : L ≤ 260) (C0 : lw_At p s m meth c b L xs) : W p l e room_1 s m #[Value.ref b] below meth c s.heap [] 0 0 (lw_Z below #[Value.ref b] s) (entryFrame m ([Value.ref b] : List Value).toArray 6) := by
  obtain ⟨hx, hb, hr, hml, hown, ht0, hX, hbl, hlocks, hgv⟩ := id C0
  have hb : c.code = cL_law := hb
  have hown : s.vm.findClass RL = some m.cls := hown
  have hst : l.stackTraces = false := by
    unfold Launch.stackTraces
    rw [hflags]
    decide +kernel
  have hts : ∀ w ∈ wsL_law, w.before #[Value.ref b] s = true := fun w h => ht0 w (wsL_law_in w h)
  have hN := tb_N ht0
  have hxK := tb_xK ht0
  have hxZ := tb_xZ ht0 hgv
  have hxN := tb_xN hgv
  have hO : va_AO "GainsReckoner$Ledger" s := va_AO.of (ht0 (.arrayOver (.object "GainsReckoner$Ledger")) (by decide +kernel))
  obtain ⟨D, hKD⟩ := tb_D ht0
  obtain ⟨cg, hKT⟩ := tb_T ht0
  have hK : va_K D vwCl (TY cg) s := ⟨hKD, hKT⟩
  have F : LC p l s m meth c b L xs cg D := ⟨hx, hb, hr, hml, hown, hts, hX, hbl, hlocks, hst, hK, hN, hxK, hxZ, hxN, hL⟩
  have hA : ∀ q : Nat, s.heap.size ≤ q → (fun q : Nat => s.heap.size ≤ q) q := fun _ h => h
  have hC : CW D [] (fun q : Nat => s.heap.size ≤ q) s.heap s.heap [] := ⟨fun k q h => by simp at h, ⟨fun i j p q h => by simp at h, fun k q h => by simp at h⟩, va_S.rf⟩
  have hl := lv_entry ([.ref b]) (n := 6) (Nat.le_of_ble_eq_true rfl)
  rw [lg_entry_eq]
  generalize (lg_sl ([.ref b]) ++ List.replicate (6 - (lg_sl ([.ref b])).length) Slot.unset).toArray = ls at hl ⊢
  have hl : lv_has ls 6 [(0, .ref b)] := hl
  refine va_calli (va_runS (As := []) (rest := []) ⟨hx, hb, hml, hown, hts⟩ (c_L_matches l cg D hst) (cwS 0 hts gL_law_L_matches rfl rfl rfl (by decide +kernel) ⟨Nat.le_of_ble_eq_true rfl, Nat.le_of_ble_eq_true rfl⟩) (z_pre hK hN hxK hxZ hxN hO (fun q h => Nat.le_trans hC.2.2.1 h) hC.2.2) rfl rfl hl.1 rfl (lv_room (Nat.le_of_ble_eq_true rfl)) dL_law_0 ⟨Nat.le_of_ble_eq_true rfl, Nat.le_of_ble_eq_true rfl⟩) hC.2.2 (fun q _ h => h.elim) (fun q h => h.elim) (fun r u t H locs ht hvm hp hB hz hk hS => ?_)
  subst hp
  have hC : CW D [] (fun q : Nat => s.heap.size ≤ q) s.heap H locs := ⟨fun k q h => by simp at h, ⟨fun i j p q h => by simp at h, fun k q h => by simp at h⟩, hS⟩
  refine mk_if_eq (tgt := 18) hx hb dL_law_3 (by decide) (by decide) (fun h => absurd h (by decide)) (fun _ => ?_)
  refine va_calli (va_runS (As := []) (rest := []) ⟨hx, hb, hml, hown, hts⟩ (c_L_splits l cg D hst) (cwS 0 hts gL_law_L_splits rfl rfl rfl (by decide +kernel) ⟨Nat.le_of_ble_eq_true rfl, Nat.le_of_ble_eq_true rfl⟩) (z_pre hK hN hxK hxZ hxN hO (fun q h => Nat.le_trans hC.2.2.1 h) hC.2.2) rfl rfl hl.1 rfl (lv_room (Nat.le_of_ble_eq_true rfl)) dL_law_6 ⟨Nat.le_of_ble_eq_true rfl, Nat.le_of_ble_eq_true rfl⟩) hC.2.2 (fun q _ h => h.elim) (fun q h => h.elim) (fun r u t H locs ht hvm hp hB hz hk hS => ?_)
  subst hp
  have hC : CW D [] (fun q : Nat => s.heap.size ≤ q) s.heap H locs := ⟨fun k q h => by simp at h, ⟨fun i j p q h => by simp at h, fun k q h => by simp at h⟩, hS⟩
  refine mk_if_eq (tgt := 18) hx hb dL_law_9 (by decide) (by decide) (fun h => absurd h (by decide)) (fun _ => ?_)
  refine va_calli (va_runS (As := []) (rest := []) ⟨hx, hb, hml, hown, hts⟩ (c_L_years l cg D hst) (cwS 0 hts gL_law_L_years rfl rfl rfl (by decide +kernel) ⟨Nat.le_of_ble_eq_true rfl, Nat.le_of_ble_eq_true rfl⟩) (z_pre hK hN hxK hxZ hxN hO (fun q h => Nat.le_trans hC.2.2.1 h) hC.2.2) rfl rfl hl.1 rfl (lv_room (Nat.le_of_ble_eq_true rfl)) dL_law_12 ⟨Nat.le_of_ble_eq_true rfl, Nat.le_of_ble_eq_true rfl⟩) hC.2.2 (fun q _ h => h.elim) (fun q h => h.elim) (fun r u t H locs ht hvm hp hB hz hk hS => ?_)
  subst hp
  have hC : CW D [] (fun q : Nat => s.heap.size ≤ q) s.heap H locs := ⟨fun k q h => by simp at h, ⟨fun i j p q h => by simp at h, fun k q h => by simp at h⟩, hS⟩
  refine mk_if_ne (tgt := 20) hx hb dL_law_15 (by decide) (by decide) (fun _ => ?_) (fun h => absurd h (by decide))
  refine ck_new (ci := 5) (fs := [.null, .null, .null, .int (iI 0)]) (C := RX5) (T := TX5) (N := 4) hx hb hts inlX5 tyX5 tyX5_ok hown (ht0 (.classLink RL 8 RX5) (by decide +kernel)) (ht0 (.instantiable RX5 4) (by decide +kernel)) (ht0 (.initialized RX5) (by decide +kernel)) hK hC hA rfl bl5 (Nat.le_of_ble_eq_true rfl) (Nat.le_of_ble_eq_true rfl) dL_law_20 (fun q H hC => ?_)
  refine lv_dup hx hb dL_law_23 rfl ?_
  refine ck_go (n := 73) (cel := celX cg) (st := sX0) hC hA (va_runI (As := []) (rest := [.ref q]) ⟨hx, hb, hml, hown, hts⟩ (c_X5_init l cg D H.size q) (cwI 0 hts gL_law_X5_init rfl rfl rfl (ht0 (.initialized RX5) (by decide +kernel)) (ht0 (.methodLink RL 101 yX5_init) (by decide +kernel)) (ht0 (.instanceMethod yX5_init) (by decide +kernel)) rfl (by decide +kernel) ⟨Nat.le_of_ble_eq_true rfl, Nat.le_of_ble_eq_true rfl⟩) (ck_pre hK hN hO hC) rfl rfl hl.1 rfl (lv_room (Nat.le_of_ble_eq_true rfl)) dL_law_24 ⟨Nat.le_of_ble_eq_true rfl, Nat.le_of_ble_eq_true rfl⟩) (fun ad H locs ead hC => ?_)
  have hW : GW D vwCl 73 (celX cg) ad (fun q : Nat => s.heap.size ≤ q) s.heap sX0 H locs := hC
  refine lv_astore_n (lv' := [(1, .ref q), (0, .ref b)]) hx hb dL_law_27 rfl hl (by decide) rfl (fun ls hl => ?_)
  rw [← ead] at hl
  refine mk_iconst hx hb (0) dL_law_28 ?_
  refine lv_istore_n (lv' := [(2, .int (iI 0)), (1, .ref (ad 0)), (0, .ref b)]) hx hb dL_law_29 rfl hl (by decide) rfl (fun ls hl => ?_)
  refine W.widen (k := 2000 + 165 * 0) (n := 20000 + 990 * 0) (Nat.le_of_ble_eq_true rfl) (Nat.le_of_ble_eq_true rfl) ?_
  refine d_loop F (fun ls st H locs hl hW => ?_) 25 0 (by omega) (by omega) ls X0b sX0 H locs ⟨fun v hv => rfl, Nat.le_refl 0⟩ X0_start hl hW
  refine lv_iload_n hx hb dL_law_30 rfl (lv_at hl 0 rfl) ?_
  refine mk_bipush hx hb (24) (by decide +kernel) dL_law_31 ?_
  refine mk_icmp_ge (tgt := 186) hx hb dL_law_33 (by decide) (by decide) (by decide) (fun _ => ?_) (fun h => absurd (show (24 : Int) ≤ 24 by decide) h)
  refine mk_iconst hx hb (1) dL_law_186 ?_
  refine W.widen (k := 600104) (n := 7301314) (Nat.le_of_ble_eq_true rfl) (Nat.le_of_ble_eq_true rfl) ?_
  refine va_forget (fun q hq => hW.2.2.2.2 q hq) ?_
  exact lw_ret hx hb hr hlocks dL_law_187
