set_option maxHeartbeats 4000000 in
set_option maxRecDepth 100000 in
theorem c_L_matches (l : Launch) (cg : Nat → ClassId) (D : va_G) (hst : l.stackTraces = false) : ZM l yL_matches wsL_matches ({ frames := 11, cells := 572, slots := 6169, locals := 250 }) D cg 572 6169 := by
  refine z_open (cc := cL_matches) (maxL := 1) (ret := (some .boolean)) (by decide) rfl ?_
  intro p e s m args below meth c hx hb hml hr hown hts hlocks hK hN ls hl hC hxK hxZ hxN hO
  have hown : s.vm.findClass RL = some m.cls := hown
  have hA : ∀ q : Nat, s.heap.size ≤ q → (fun q : Nat => s.heap.size ≤ q) q := fun _ h => h
  have inX5 : ∀ w ∈ wsX50, w ∈ wsL_matches := by decide +kernel
  refine ck_new (ci := 5) (fs := [.null, .null, .null, .int (iI 0)]) (C := RX5) (T := TX5) (N := 4) hx hb hts inX5 tyX5 tyX5_ok hown (hts (.classLink RL 8 RX5) (by decide +kernel)) (hts (.instantiable RX5 4) (by decide +kernel)) (hts (.initialized RX5) (by decide +kernel)) hK hC hA rfl bl5 (Nat.le_of_ble_eq_true rfl) (Nat.le_of_ble_eq_true rfl) dL_matches_0 (fun q H hC => ?_)
  refine lv_dup hx hb dL_matches_3 rfl ?_
  refine ck_go (n := 73) (cel := celX cg) (st := sX0) hC hA (va_runI (As := []) (rest := [.ref q]) ⟨hx, hb, hml, hown, hts⟩ (c_X5_init l cg D H.size q) (cwI 0 hts gL_matches_X5_init rfl rfl rfl (hts (.initialized RX5) (by decide +kernel)) (hts (.methodLink RL 101 yX5_init) (by decide +kernel)) (hts (.instanceMethod yX5_init) (by decide +kernel)) rfl (by decide +kernel) ⟨Nat.le_of_ble_eq_true rfl, Nat.le_of_ble_eq_true rfl⟩) (ck_pre hK hN hO hC) rfl rfl hl.1 rfl (lv_room (Nat.le_of_ble_eq_true rfl)) dL_matches_4 ⟨Nat.le_of_ble_eq_true rfl, Nat.le_of_ble_eq_true rfl⟩) (fun ad H locs ead hC => ?_)
  have hW : GW D vwCl 73 (celX cg) ad (fun q : Nat => s.heap.size ≤ q) s.heap sX0 H locs := hC
  refine lv_astore_n (lv' := [(0, .ref q)]) hx hb dL_matches_7 rfl hl (by decide) rfl (fun ls hl => ?_)
  rw [← ead] at hl
  obtain ⟨st, e3⟩ : ∃ q, q = sX0 := ⟨_, rfl⟩
  have hX : XI st bm0 := by rw [e3]; exact X0_start.be bm0_st
  rw [← e3] at hW
  have F : LX p l s m args meth c cL_matches 1 wsL_matches cg D (fun q => s.heap.size ≤ q) := ⟨hx, hb, hml, hown, hts, hlocks, hst, hK, hN, hxK, hxZ, hxN⟩
  refine bm_s0 F hl hW hX (fun st H locs hW hX => ?_)
  refine bm_s1 F hl hW hX (fun st H locs hW hX => ?_)
  refine bm_s2 F hl hW hX (fun st H locs hW hX => ?_)
  refine bm_s3 F hl hW hX (fun st H locs hW hX => ?_)
  refine bm_s4 F hl hW hX (fun st H locs hW hX => ?_)
  refine bm_s5 F hl hW hX (fun st H locs hW hX => ?_)
  refine bm_s6 F hl hW hX (fun st H locs hW hX => ?_)
  refine bm_s7 F hl hW hX (fun st H locs hW hX => ?_)
  refine mk_iconst hx hb (1) dL_matches_734 ?_
  refine lv_goto (tgt := 739) hx hb dL_matches_735 (by decide) ?_
  exact z_ret hx hb hr hlocks hW dL_matches_739
set_option maxHeartbeats 4000000 in
set_option maxRecDepth 100000 in
theorem c_L_splits (l : Launch) (cg : Nat → ClassId) (D : va_G) (hst : l.stackTraces = false) : ZM l yL_splits wsL_splits ({ frames := 11, cells := 242, slots := 4189, locals := 250 }) D cg 242 4189 := by
  refine z_open (cc := cL_splits) (maxL := 1) (ret := (some .boolean)) (by decide) rfl ?_
  intro p e s m args below meth c hx hb hml hr hown hts hlocks hK hN ls hl hC hxK hxZ hxN hO
  have hown : s.vm.findClass RL = some m.cls := hown
  have hA : ∀ q : Nat, s.heap.size ≤ q → (fun q : Nat => s.heap.size ≤ q) q := fun _ h => h
  have inX5 : ∀ w ∈ wsX50, w ∈ wsL_splits := by decide +kernel
  refine ck_new (ci := 5) (fs := [.null, .null, .null, .int (iI 0)]) (C := RX5) (T := TX5) (N := 4) hx hb hts inX5 tyX5 tyX5_ok hown (hts (.classLink RL 8 RX5) (by decide +kernel)) (hts (.instantiable RX5 4) (by decide +kernel)) (hts (.initialized RX5) (by decide +kernel)) hK hC hA rfl bl5 (Nat.le_of_ble_eq_true rfl) (Nat.le_of_ble_eq_true rfl) dL_splits_0 (fun q H hC => ?_)
  refine lv_dup hx hb dL_splits_3 rfl ?_
  refine ck_go (n := 73) (cel := celX cg) (st := sX0) hC hA (va_runI (As := []) (rest := [.ref q]) ⟨hx, hb, hml, hown, hts⟩ (c_X5_init l cg D H.size q) (cwI 0 hts gL_splits_X5_init rfl rfl rfl (hts (.initialized RX5) (by decide +kernel)) (hts (.methodLink RL 101 yX5_init) (by decide +kernel)) (hts (.instanceMethod yX5_init) (by decide +kernel)) rfl (by decide +kernel) ⟨Nat.le_of_ble_eq_true rfl, Nat.le_of_ble_eq_true rfl⟩) (ck_pre hK hN hO hC) rfl rfl hl.1 rfl (lv_room (Nat.le_of_ble_eq_true rfl)) dL_splits_4 ⟨Nat.le_of_ble_eq_true rfl, Nat.le_of_ble_eq_true rfl⟩) (fun ad H locs ead hC => ?_)
  have hW : GW D vwCl 73 (celX cg) ad (fun q : Nat => s.heap.size ≤ q) s.heap sX0 H locs := hC
  refine lv_astore_n (lv' := [(0, .ref q)]) hx hb dL_splits_7 rfl hl (by decide) rfl (fun ls hl => ?_)
  rw [← ead] at hl
  obtain ⟨st, e3⟩ : ∃ q, q = sX0 := ⟨_, rfl⟩
  have hX : XI st bs0 := by rw [e3]; exact X0_start.be bs0_st
  rw [← e3] at hW
  have F : LX p l s m args meth c cL_splits 1 wsL_splits cg D (fun q => s.heap.size ≤ q) := ⟨hx, hb, hml, hown, hts, hlocks, hst, hK, hN, hxK, hxZ, hxN⟩
  refine bs_s0 F hl hW hX (fun st H locs hW hX => ?_)
  refine bs_s1 F hl hW hX (fun st H locs hW hX => ?_)
  refine bs_s2 F hl hW hX (fun st H locs hW hX => ?_)
  refine bs_s3 F hl hW hX (fun st H locs hW hX => ?_)
  refine bs_s4 F hl hW hX (fun st H locs hW hX => ?_)
  refine bs_s5 F hl hW hX (fun st H locs hW hX => ?_)
  refine bs_s6 F hl hW hX (fun st H locs hW hX => ?_)
  refine mk_iconst hx hb (1) dL_splits_744 ?_
  refine lv_goto (tgt := 749) hx hb dL_splits_745 (by decide) ?_
  exact z_ret hx hb hr hlocks hW dL_splits_749
