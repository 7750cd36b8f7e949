section LAWC
variable {p : Program} {l : Launch} {e : Env} {R : Room} {s : State} {m : MethodId} {args : Array Value} {below : List Frame} {meth : Method} {c : Code} {H : Heap} {locs : List Loc} {cells slots : Nat} {Q : State → Prop}
variable {cc : ByteArray} {pc : Nat} {ls : Array Slot} {rest : List Value} {D : va_G} {cl : List vw_C} {A : Nat → Prop} {tys : List (ClassId × FieldType)} {H0 : Heap} {n n' : Nat} {cel cel' : (Nat → Nat) → (Nat → Int) → Nat → va_E} {ad ad' : Nat → Nat} {em : Nat → Nat} {st : Nat → Nat → Int} {cg : Nat → ClassId} {b L : Nat} {xs : Nat → Int32}
set_option maxHeartbeats 2000000 in
set_option maxRecDepth 100000 in
theorem lc_holding (F : LC p l s m meth c b L xs cg D) {i : Nat} (hi : i + 5 ≤ L) (hl : lv_has ls 7 [(0, .ref b), (1, .ref (ad 0)), (2, .ref (ad 74)), (3, .ref (ad 73)), (4, .int (iI (i : Int)))]) (hW : GW D vwCl 100 (celT cg) ad (fun q => s.heap.size ≤ q) s.heap st H locs) (hX : XI st (sub emM st))
    (kk : ∀ (ls : Array Slot) (st : Nat → Nat → Int) (H : Heap) (locs : List Loc), lv_has ls 7 [(0, .ref b), (1, .ref (ad 0)), (2, .ref (ad 74)), (3, .ref (ad 73)), (4, .int (iI (i : Int)))] → GW D vwCl 100 (celT cg) ad (fun q => s.heap.size ≤ q) s.heap st H locs → XI st (sub emM st) → W p l e room_1 s m #[Value.ref b] below meth c H locs (100 + (i + 5)) (5674 + 6 * (i + 5)) Q (F0 m 1597 ls [])) : W p l e room_1 s m #[Value.ref b] below meth c H locs (100 + i) (5674 + 6 * i) Q (F0 m 581 ls []) := by
  obtain ⟨hx, hb, hr, hml, hown, hts, hXs, hbl, hlocks, hst, hK, hN, hxK, hxZ, hxN, hL⟩ := id F
  refine lv_aload_n hx hb dL_law_581 rfl (lv_at hl 1 rfl) ?_
  refine lk_arg F hW (lv_at hl 0 rfl) (lv_at hl 4 rfl) (j := 1) (by omega) rfl dL_law_582 dL_law_583 dL_law_585 dL_law_586 dL_law_587 ?_
  refine lk_arg F hW (lv_at hl 0 rfl) (lv_at hl 4 rfl) (j := 2) (by omega) rfl dL_law_588 dL_law_589 dL_law_591 dL_law_592 dL_law_593 ?_
  refine lv_aload_n hx hb dL_law_594 rfl (lv_at hl 3 rfl) ?_
  refine mw_goIE (EmbWT cg ad) (vx_runSW (As := [.ref (ad 0), .int (iI (xs (i + 1)).toInt), .int (iI (xs (i + 2)).toInt), .ref (ad 73)]) (rest := []) ⟨hx, hb, hml, hown, hts⟩ (w_holding l cg D ad st hst (sub emM st) hX ((xs (i + 1)).toInt) ((xs (i + 2)).toInt) (iI_rng (xs (i + 1))) (iI_rng (xs (i + 2)))) (vx_cwSW 4 hts gL_law_L_holding rfl rfl rfl (by decide +kernel) ⟨Nat.le_of_ble_eq_true rfl, Nat.le_of_ble_eq_true rfl⟩) (mw_preS hK hN hxK hxZ hxN (hW.emb (EmbWT cg ad))) rfl rfl hl.1 rfl (lv_room (Nat.le_of_ble_eq_true rfl)) dL_law_595 ⟨show 100 + i + 1 ≤ 601024 by omega, show 5674 + 6 * i + 6 ≤ 7293034 by omega⟩) hW (fun z u hp H locs hW => ?_)
  obtain ⟨st1, e1⟩ : ∃ q, q = up 74 (fun k => k) u st := ⟨_, rfl⟩
  rw [← e1] at hW
  have e2 : sub emM st1 = sub emM st := by rw [e1]; exact sub_wm u st
  obtain ⟨v, b1, hp, hXu, hout⟩ := hp
  have hX1 : XI st1 b1 := hXu.on fun k hk => by rw [e1]; exact up_w (by omega) u st
  refine lv_istore (lv' := [(5, .int (iI z)), (0, .ref b), (1, .ref (ad 0)), (2, .ref (ad 74)), (3, .ref (ad 73)), (4, .int (iI (i : Int)))]) hx hb dL_law_598 hl (by decide) rfl (fun ls hl => ?_)
  refine lv_aload_n hx hb dL_law_600 rfl (lv_at hl 3 rfl) ?_
  refine lk_arg F hW (lv_at hl 1 rfl) (lv_at hl 5 rfl) (j := 1) (by omega) rfl dL_law_601 dL_law_602 dL_law_604 dL_law_605 dL_law_606 ?_
  refine lk_arg F hW (lv_at hl 1 rfl) (lv_at hl 5 rfl) (j := 2) (by omega) rfl dL_law_607 dL_law_608 dL_law_610 dL_law_611 dL_law_612 ?_
  refine mk_goIE (EmbMT cg ad) (va_runV (As := [.int (iI (xs (i + 1)).toInt), .int (iI (xs (i + 2)).toInt)]) (rest := []) ⟨hx, hb, hml, hown, hts⟩ (m_holding l cg D (fun j => ad (74 + j)) (sub emM st1) (xR st) (xD st) (by rw [e2]; exact hX.1) (by rw [e2]; exact hX.rows) ((xs (i + 1)).toInt) ((xs (i + 2)).toInt) (iI_rng (xs (i + 1))) (iI_rng (xs (i + 2)))) (cwV 2 hts gL_law_X6_holding rfl rfl rfl (by decide +kernel) ⟨Nat.le_of_ble_eq_true rfl, Nat.le_of_ble_eq_true rfl⟩) (mk_preV hK hN (hW.emb (EmbMT cg ad)) 0 (by decide) rfl rfl rfl) rfl rfl hl.1 rfl (lv_room (Nat.le_of_ble_eq_true rfl)) dL_law_613 ⟨show 100 + i + 1 ≤ 601024 by omega, show 5674 + 6 * i + 6 ≤ 7293034 by omega⟩) hW (fun z2 u2 hp2 H locs hW => ?_)
  rw [e2] at hp2
  obtain ⟨b2, hp2, hbe⟩ := hp2
  obtain ⟨s1, s2, s3⟩ := POR.f (fun _ _ g1 g2 => P_holding_f _ _ _ _ _ g1 g2) hp hp2
  obtain ⟨st2, e3⟩ : ∃ q, q = up 26 emM u2 st1 := ⟨_, rfl⟩
  rw [← e3] at hW
  have hX2 : XI st2 (sub emM st2) := by rw [e3]; exact inv_next (st := st) hX1 (by rw [s3]; exact hbe)
  have h29 : st2 74 29 = z := by
    rw [e3]
    show up 26 emM u2 st1 (emM 0) 29 = z
    rw [up_in emM_inj (by decide)]
    exact s1.symm
  have h73 : z = 0 → st2 73 0 = wr z2 := fun h => by rw [e3, up_m_lo (by decide), e1, up_w (by decide), hout h, s2 h]
  refine W.widen (show 100 + i + 1 ≤ 100 + (i + 5) by omega) (show 5674 + 6 * i + 6 ≤ 5674 + 6 * (i + 5) by omega) ?_
  exact lk_tail F hl hW (POR.k hp) h29 h73 ⟨by omega, by omega⟩ (by decide) dL_law_616 dL_law_618 dL_law_619 dL_law_622 dL_law_624 dL_law_629 dL_law_631 dL_law_634 dL_law_635 dL_law_636 dL_law_637 dL_law_639 dL_law_640 dL_law_641 dL_law_646 (fun ls H locs h1 h2 => kk ls st2 H locs h1 h2 hX2)
set_option maxHeartbeats 2000000 in
set_option maxRecDepth 100000 in
theorem lc_poolUnits (F : LC p l s m meth c b L xs cg D) {i : Nat} (hi : i + 5 ≤ L) (hl : lv_has ls 7 [(0, .ref b), (1, .ref (ad 0)), (2, .ref (ad 74)), (3, .ref (ad 73)), (4, .int (iI (i : Int)))]) (hW : GW D vwCl 100 (celT cg) ad (fun q => s.heap.size ≤ q) s.heap st H locs) (hX : XI st (sub emM st))
    (kk : ∀ (ls : Array Slot) (st : Nat → Nat → Int) (H : Heap) (locs : List Loc), lv_has ls 7 [(0, .ref b), (1, .ref (ad 0)), (2, .ref (ad 74)), (3, .ref (ad 73)), (4, .int (iI (i : Int)))] → GW D vwCl 100 (celT cg) ad (fun q => s.heap.size ≤ q) s.heap st H locs → XI st (sub emM st) → W p l e room_1 s m #[Value.ref b] below meth c H locs (100 + (i + 5)) (5674 + 6 * (i + 5)) Q (F0 m 1597 ls [])) : W p l e room_1 s m #[Value.ref b] below meth c H locs (100 + i) (5674 + 6 * i) Q (F0 m 649 ls []) := by
  obtain ⟨hx, hb, hr, hml, hown, hts, hXs, hbl, hlocks, hst, hK, hN, hxK, hxZ, hxN, hL⟩ := id F
  refine lv_aload_n hx hb dL_law_649 rfl (lv_at hl 1 rfl) ?_
  refine lk_arg F hW (lv_at hl 0 rfl) (lv_at hl 4 rfl) (j := 1) (by omega) rfl dL_law_650 dL_law_651 dL_law_653 dL_law_654 dL_law_655 ?_
  refine lk_arg F hW (lv_at hl 0 rfl) (lv_at hl 4 rfl) (j := 2) (by omega) rfl dL_law_656 dL_law_657 dL_law_659 dL_law_660 dL_law_661 ?_
  refine lv_aload_n hx hb dL_law_662 rfl (lv_at hl 3 rfl) ?_
  refine mw_goIE (EmbWT cg ad) (vx_runSW (As := [.ref (ad 0), .int (iI (xs (i + 1)).toInt), .int (iI (xs (i + 2)).toInt), .ref (ad 73)]) (rest := []) ⟨hx, hb, hml, hown, hts⟩ (w_poolUnits l cg D ad st hst (sub emM st) hX ((xs (i + 1)).toInt) ((xs (i + 2)).toInt) (iI_rng (xs (i + 1))) (iI_rng (xs (i + 2)))) (vx_cwSW 4 hts gL_law_L_poolUnits rfl rfl rfl (by decide +kernel) ⟨Nat.le_of_ble_eq_true rfl, Nat.le_of_ble_eq_true rfl⟩) (mw_preS hK hN hxK hxZ hxN (hW.emb (EmbWT cg ad))) rfl rfl hl.1 rfl (lv_room (Nat.le_of_ble_eq_true rfl)) dL_law_663 ⟨show 100 + i + 1 ≤ 601024 by omega, show 5674 + 6 * i + 6 ≤ 7293034 by omega⟩) hW (fun z u hp H locs hW => ?_)
  obtain ⟨st1, e1⟩ : ∃ q, q = up 74 (fun k => k) u st := ⟨_, rfl⟩
  rw [← e1] at hW
  have e2 : sub emM st1 = sub emM st := by rw [e1]; exact sub_wm u st
  obtain ⟨v, b1, hp, hXu, hout⟩ := hp
  have hX1 : XI st1 b1 := hXu.on fun k hk => by rw [e1]; exact up_w (by omega) u st
  refine lv_istore (lv' := [(5, .int (iI z)), (0, .ref b), (1, .ref (ad 0)), (2, .ref (ad 74)), (3, .ref (ad 73)), (4, .int (iI (i : Int)))]) hx hb dL_law_666 hl (by decide) rfl (fun ls hl => ?_)
  refine lv_aload_n hx hb dL_law_668 rfl (lv_at hl 3 rfl) ?_
  refine lk_arg F hW (lv_at hl 1 rfl) (lv_at hl 5 rfl) (j := 1) (by omega) rfl dL_law_669 dL_law_670 dL_law_672 dL_law_673 dL_law_674 ?_
  refine lk_arg F hW (lv_at hl 1 rfl) (lv_at hl 5 rfl) (j := 2) (by omega) rfl dL_law_675 dL_law_676 dL_law_678 dL_law_679 dL_law_680 ?_
  refine mk_goIE (EmbMT cg ad) (va_runV (As := [.int (iI (xs (i + 1)).toInt), .int (iI (xs (i + 2)).toInt)]) (rest := []) ⟨hx, hb, hml, hown, hts⟩ (m_poolUnits l cg D (fun j => ad (74 + j)) (sub emM st1) (xR st) (xD st) (by rw [e2]; exact hX.1) (by rw [e2]; exact hX.rows) ((xs (i + 1)).toInt) ((xs (i + 2)).toInt) (iI_rng (xs (i + 1))) (iI_rng (xs (i + 2)))) (cwV 2 hts gL_law_X6_poolUnits rfl rfl rfl (by decide +kernel) ⟨Nat.le_of_ble_eq_true rfl, Nat.le_of_ble_eq_true rfl⟩) (mk_preV hK hN (hW.emb (EmbMT cg ad)) 0 (by decide) rfl rfl rfl) rfl rfl hl.1 rfl (lv_room (Nat.le_of_ble_eq_true rfl)) dL_law_681 ⟨show 100 + i + 1 ≤ 601024 by omega, show 5674 + 6 * i + 6 ≤ 7293034 by omega⟩) hW (fun z2 u2 hp2 H locs hW => ?_)
  rw [e2] at hp2
  obtain ⟨b2, hp2, hbe⟩ := hp2
  obtain ⟨s1, s2, s3⟩ := POR.f (fun _ _ g1 g2 => P_poolUnits_f _ _ _ _ _ g1 g2) hp hp2
  obtain ⟨st2, e3⟩ : ∃ q, q = up 26 emM u2 st1 := ⟨_, rfl⟩
  rw [← e3] at hW
  have hX2 : XI st2 (sub emM st2) := by rw [e3]; exact inv_next (st := st) hX1 (by rw [s3]; exact hbe)
  have h29 : st2 74 29 = z := by
    rw [e3]
    show up 26 emM u2 st1 (emM 0) 29 = z
    rw [up_in emM_inj (by decide)]
    exact s1.symm
  have h73 : z = 0 → st2 73 0 = wr z2 := fun h => by rw [e3, up_m_lo (by decide), e1, up_w (by decide), hout h, s2 h]
  refine W.widen (show 100 + i + 1 ≤ 100 + (i + 5) by omega) (show 5674 + 6 * i + 6 ≤ 5674 + 6 * (i + 5) by omega) ?_
  exact lk_tail F hl hW (POR.k hp) h29 h73 ⟨by omega, by omega⟩ (by decide) dL_law_684 dL_law_686 dL_law_687 dL_law_690 dL_law_692 dL_law_697 dL_law_699 dL_law_702 dL_law_703 dL_law_704 dL_law_705 dL_law_707 dL_law_708 dL_law_709 dL_law_714 (fun ls H locs h1 h2 => kk ls st2 H locs h1 h2 hX2)
set_option maxHeartbeats 2000000 in
set_option maxRecDepth 100000 in
theorem lc_poolCost (F : LC p l s m meth c b L xs cg D) {i : Nat} (hi : i + 5 ≤ L) (hl : lv_has ls 7 [(0, .ref b), (1, .ref (ad 0)), (2, .ref (ad 74)), (3, .ref (ad 73)), (4, .int (iI (i : Int)))]) (hW : GW D vwCl 100 (celT cg) ad (fun q => s.heap.size ≤ q) s.heap st H locs) (hX : XI st (sub emM st))
    (kk : ∀ (ls : Array Slot) (st : Nat → Nat → Int) (H : Heap) (locs : List Loc), lv_has ls 7 [(0, .ref b), (1, .ref (ad 0)), (2, .ref (ad 74)), (3, .ref (ad 73)), (4, .int (iI (i : Int)))] → GW D vwCl 100 (celT cg) ad (fun q => s.heap.size ≤ q) s.heap st H locs → XI st (sub emM st) → W p l e room_1 s m #[Value.ref b] below meth c H locs (100 + (i + 5)) (5674 + 6 * (i + 5)) Q (F0 m 1597 ls [])) : W p l e room_1 s m #[Value.ref b] below meth c H locs (100 + i) (5674 + 6 * i) Q (F0 m 717 ls []) := by
  obtain ⟨hx, hb, hr, hml, hown, hts, hXs, hbl, hlocks, hst, hK, hN, hxK, hxZ, hxN, hL⟩ := id F
  refine lv_aload_n hx hb dL_law_717 rfl (lv_at hl 1 rfl) ?_
  refine lk_arg F hW (lv_at hl 0 rfl) (lv_at hl 4 rfl) (j := 1) (by omega) rfl dL_law_718 dL_law_719 dL_law_721 dL_law_722 dL_law_723 ?_
  refine lk_arg F hW (lv_at hl 0 rfl) (lv_at hl 4 rfl) (j := 2) (by omega) rfl dL_law_724 dL_law_725 dL_law_727 dL_law_728 dL_law_729 ?_
  refine lv_aload_n hx hb dL_law_730 rfl (lv_at hl 3 rfl) ?_
  refine mw_goIE (EmbWT cg ad) (vx_runSW (As := [.ref (ad 0), .int (iI (xs (i + 1)).toInt), .int (iI (xs (i + 2)).toInt), .ref (ad 73)]) (rest := []) ⟨hx, hb, hml, hown, hts⟩ (w_poolCost l cg D ad st hst (sub emM st) hX ((xs (i + 1)).toInt) ((xs (i + 2)).toInt) (iI_rng (xs (i + 1))) (iI_rng (xs (i + 2)))) (vx_cwSW 4 hts gL_law_L_poolCost rfl rfl rfl (by decide +kernel) ⟨Nat.le_of_ble_eq_true rfl, Nat.le_of_ble_eq_true rfl⟩) (mw_preS hK hN hxK hxZ hxN (hW.emb (EmbWT cg ad))) rfl rfl hl.1 rfl (lv_room (Nat.le_of_ble_eq_true rfl)) dL_law_731 ⟨show 100 + i + 1 ≤ 601024 by omega, show 5674 + 6 * i + 6 ≤ 7293034 by omega⟩) hW (fun z u hp H locs hW => ?_)
  obtain ⟨st1, e1⟩ : ∃ q, q = up 74 (fun k => k) u st := ⟨_, rfl⟩
  rw [← e1] at hW
  have e2 : sub emM st1 = sub emM st := by rw [e1]; exact sub_wm u st
  obtain ⟨v, b1, hp, hXu, hout⟩ := hp
  have hX1 : XI st1 b1 := hXu.on fun k hk => by rw [e1]; exact up_w (by omega) u st
  refine lv_istore (lv' := [(5, .int (iI z)), (0, .ref b), (1, .ref (ad 0)), (2, .ref (ad 74)), (3, .ref (ad 73)), (4, .int (iI (i : Int)))]) hx hb dL_law_734 hl (by decide) rfl (fun ls hl => ?_)
  refine lv_aload_n hx hb dL_law_736 rfl (lv_at hl 3 rfl) ?_
  refine lk_arg F hW (lv_at hl 1 rfl) (lv_at hl 5 rfl) (j := 1) (by omega) rfl dL_law_737 dL_law_738 dL_law_740 dL_law_741 dL_law_742 ?_
  refine lk_arg F hW (lv_at hl 1 rfl) (lv_at hl 5 rfl) (j := 2) (by omega) rfl dL_law_743 dL_law_744 dL_law_746 dL_law_747 dL_law_748 ?_
  refine mk_goIE (EmbMT cg ad) (va_runV (As := [.int (iI (xs (i + 1)).toInt), .int (iI (xs (i + 2)).toInt)]) (rest := []) ⟨hx, hb, hml, hown, hts⟩ (m_poolCost l cg D (fun j => ad (74 + j)) (sub emM st1) (xR st) (xD st) (by rw [e2]; exact hX.1) (by rw [e2]; exact hX.rows) ((xs (i + 1)).toInt) ((xs (i + 2)).toInt) (iI_rng (xs (i + 1))) (iI_rng (xs (i + 2)))) (cwV 2 hts gL_law_X6_poolCost rfl rfl rfl (by decide +kernel) ⟨Nat.le_of_ble_eq_true rfl, Nat.le_of_ble_eq_true rfl⟩) (mk_preV hK hN (hW.emb (EmbMT cg ad)) 0 (by decide) rfl rfl rfl) rfl rfl hl.1 rfl (lv_room (Nat.le_of_ble_eq_true rfl)) dL_law_749 ⟨show 100 + i + 1 ≤ 601024 by omega, show 5674 + 6 * i + 6 ≤ 7293034 by omega⟩) hW (fun z2 u2 hp2 H locs hW => ?_)
  rw [e2] at hp2
  obtain ⟨b2, hp2, hbe⟩ := hp2
  obtain ⟨s1, s2, s3⟩ := POR.f (fun _ _ g1 g2 => P_poolCost_f _ _ _ _ _ g1 g2) hp hp2
  obtain ⟨st2, e3⟩ : ∃ q, q = up 26 emM u2 st1 := ⟨_, rfl⟩
  rw [← e3] at hW
  have hX2 : XI st2 (sub emM st2) := by rw [e3]; exact inv_next (st := st) hX1 (by rw [s3]; exact hbe)
  have h29 : st2 74 29 = z := by
    rw [e3]
    show up 26 emM u2 st1 (emM 0) 29 = z
    rw [up_in emM_inj (by decide)]
    exact s1.symm
  have h73 : z = 0 → st2 73 0 = wr z2 := fun h => by rw [e3, up_m_lo (by decide), e1, up_w (by decide), hout h, s2 h]
  refine W.widen (show 100 + i + 1 ≤ 100 + (i + 5) by omega) (show 5674 + 6 * i + 6 ≤ 5674 + 6 * (i + 5) by omega) ?_
  exact lk_tail F hl hW (POR.k hp) h29 h73 ⟨by omega, by omega⟩ (by decide) dL_law_752 dL_law_754 dL_law_755 dL_law_758 dL_law_760 dL_law_765 dL_law_767 dL_law_770 dL_law_771 dL_law_772 dL_law_773 dL_law_775 dL_law_776 dL_law_777 dL_law_782 (fun ls H locs h1 h2 => kk ls st2 H locs h1 h2 hX2)
set_option maxHeartbeats 2000000 in
set_option maxRecDepth 100000 in
theorem lc_costIn (F : LC p l s m meth c b L xs cg D) {i : Nat} (hi : i + 5 ≤ L) (hl : lv_has ls 7 [(0, .ref b), (1, .ref (ad 0)), (2, .ref (ad 74)), (3, .ref (ad 73)), (4, .int (iI (i : Int)))]) (hW : GW D vwCl 100 (celT cg) ad (fun q => s.heap.size ≤ q) s.heap st H locs) (hX : XI st (sub emM st))
    (kk : ∀ (ls : Array Slot) (st : Nat → Nat → Int) (H : Heap) (locs : List Loc), lv_has ls 7 [(0, .ref b), (1, .ref (ad 0)), (2, .ref (ad 74)), (3, .ref (ad 73)), (4, .int (iI (i : Int)))] → GW D vwCl 100 (celT cg) ad (fun q => s.heap.size ≤ q) s.heap st H locs → XI st (sub emM st) → W p l e room_1 s m #[Value.ref b] below meth c H locs (100 + (i + 5)) (5674 + 6 * (i + 5)) Q (F0 m 1597 ls [])) : W p l e room_1 s m #[Value.ref b] below meth c H locs (100 + i) (5674 + 6 * i) Q (F0 m 785 ls []) := by
  obtain ⟨hx, hb, hr, hml, hown, hts, hXs, hbl, hlocks, hst, hK, hN, hxK, hxZ, hxN, hL⟩ := id F
  refine lv_aload_n hx hb dL_law_785 rfl (lv_at hl 1 rfl) ?_
  refine lk_arg F hW (lv_at hl 0 rfl) (lv_at hl 4 rfl) (j := 1) (by omega) rfl dL_law_786 dL_law_787 dL_law_789 dL_law_790 dL_law_791 ?_
  refine lv_aload_n hx hb dL_law_792 rfl (lv_at hl 3 rfl) ?_
  refine mw_goIE (EmbWT cg ad) (vx_runSW (As := [.ref (ad 0), .int (iI (xs (i + 1)).toInt), .ref (ad 73)]) (rest := []) ⟨hx, hb, hml, hown, hts⟩ (w_costIn l cg D ad st hst (sub emM st) hX ((xs (i + 1)).toInt) (iI_rng (xs (i + 1)))) (vx_cwSW 3 hts gL_law_L_costIn rfl rfl rfl (by decide +kernel) ⟨Nat.le_of_ble_eq_true rfl, Nat.le_of_ble_eq_true rfl⟩) (mw_preS hK hN hxK hxZ hxN (hW.emb (EmbWT cg ad))) rfl rfl hl.1 rfl (lv_room (Nat.le_of_ble_eq_true rfl)) dL_law_793 ⟨show 100 + i + 1 ≤ 601024 by omega, show 5674 + 6 * i + 6 ≤ 7293034 by omega⟩) hW (fun z u hp H locs hW => ?_)
  obtain ⟨st1, e1⟩ : ∃ q, q = up 74 (fun k => k) u st := ⟨_, rfl⟩
  rw [← e1] at hW
  have e2 : sub emM st1 = sub emM st := by rw [e1]; exact sub_wm u st
  obtain ⟨v, b1, hp, hXu, hout⟩ := hp
  have hX1 : XI st1 b1 := hXu.on fun k hk => by rw [e1]; exact up_w (by omega) u st
  refine lv_istore (lv' := [(5, .int (iI z)), (0, .ref b), (1, .ref (ad 0)), (2, .ref (ad 74)), (3, .ref (ad 73)), (4, .int (iI (i : Int)))]) hx hb dL_law_796 hl (by decide) rfl (fun ls hl => ?_)
  refine lv_aload_n hx hb dL_law_798 rfl (lv_at hl 3 rfl) ?_
  refine lk_arg F hW (lv_at hl 1 rfl) (lv_at hl 5 rfl) (j := 1) (by omega) rfl dL_law_799 dL_law_800 dL_law_802 dL_law_803 dL_law_804 ?_
  refine mk_goIE (EmbMT cg ad) (va_runV (As := [.int (iI (xs (i + 1)).toInt)]) (rest := []) ⟨hx, hb, hml, hown, hts⟩ (m_costIn l cg D (fun j => ad (74 + j)) (sub emM st1) (xR st) (xD st) (by rw [e2]; exact hX.1) (by rw [e2]; exact hX.rows) ((xs (i + 1)).toInt) (iI_rng (xs (i + 1)))) (cwV 1 hts gL_law_X6_costIn rfl rfl rfl (by decide +kernel) ⟨Nat.le_of_ble_eq_true rfl, Nat.le_of_ble_eq_true rfl⟩) (mk_preV hK hN (hW.emb (EmbMT cg ad)) 0 (by decide) rfl rfl rfl) rfl rfl hl.1 rfl (lv_room (Nat.le_of_ble_eq_true rfl)) dL_law_805 ⟨show 100 + i + 1 ≤ 601024 by omega, show 5674 + 6 * i + 6 ≤ 7293034 by omega⟩) hW (fun z2 u2 hp2 H locs hW => ?_)
  rw [e2] at hp2
  obtain ⟨b2, hp2, hbe⟩ := hp2
  obtain ⟨s1, s2, s3⟩ := POR.f (fun _ _ g1 g2 => P_costIn_f _ _ _ _ g1 g2) hp hp2
  obtain ⟨st2, e3⟩ : ∃ q, q = up 26 emM u2 st1 := ⟨_, rfl⟩
  rw [← e3] at hW
  have hX2 : XI st2 (sub emM st2) := by rw [e3]; exact inv_next (st := st) hX1 (by rw [s3]; exact hbe)
  have h29 : st2 74 29 = z := by
    rw [e3]
    show up 26 emM u2 st1 (emM 0) 29 = z
    rw [up_in emM_inj (by decide)]
    exact s1.symm
  have h73 : z = 0 → st2 73 0 = wr z2 := fun h => by rw [e3, up_m_lo (by decide), e1, up_w (by decide), hout h, s2 h]
  refine W.widen (show 100 + i + 1 ≤ 100 + (i + 5) by omega) (show 5674 + 6 * i + 6 ≤ 5674 + 6 * (i + 5) by omega) ?_
  exact lk_tail F hl hW (POR.k hp) h29 h73 ⟨by omega, by omega⟩ (by decide) dL_law_808 dL_law_810 dL_law_811 dL_law_814 dL_law_816 dL_law_821 dL_law_823 dL_law_826 dL_law_827 dL_law_828 dL_law_829 dL_law_831 dL_law_832 dL_law_833 dL_law_838 (fun ls H locs h1 h2 => kk ls st2 H locs h1 h2 hX2)
end LAWC

