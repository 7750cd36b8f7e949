section
-- ===== PART A: goes FIRST, ahead of the names: the tables' words, and 'selects' of the private methods out of them =====
/-- a private method of a class that the tables say can be made, by its rows of tables_1 -/
def lw_okq (q : MethodName × Nat) : Prop := (q.1.cls ≠ "java/lang/invoke/MethodHandle" ∧ q.1.cls ≠ "java/lang/invoke/VarHandle") ∧ Cond.instantiable q.1.cls q.2 ∈ tables_1 ∧ Cond.privateMethod q.1 ∈ tables_1 ∧ Cond.instanceMethod q.1 ∈ tables_1
theorem lw_p0 : lw_okq (⟨"GainsReckoner", "ledgerAt", "(II)LGainsReckoner$Ledger;"⟩, 4) := ⟨⟨by decide +kernel, by decide +kernel⟩, List.mem_of_getElem? (i := 16) (by decide +kernel), List.mem_of_getElem? (i := 221) (by decide +kernel), List.mem_of_getElem? (i := 222) (by decide +kernel)⟩
theorem lw_p1 : lw_okq (⟨"GainsReckoner", "ledgerOf", "(I)LGainsReckoner$Ledger;"⟩, 4) := ⟨⟨by decide +kernel, by decide +kernel⟩, List.mem_of_getElem? (i := 16) (by decide +kernel), List.mem_of_getElem? (i := 225) (by decide +kernel), List.mem_of_getElem? (i := 226) (by decide +kernel)⟩
theorem lw_p2 : lw_okq (⟨"java/lang/Throwable", "fillInStackTrace", "(I)Ljava/lang/Throwable;"⟩, 6) := ⟨⟨by decide +kernel, by decide +kernel⟩, List.mem_of_getElem? (i := 267) (by decide +kernel), List.mem_of_getElem? (i := 265) (by decide +kernel), List.mem_of_getElem? (i := 266) (by decide +kernel)⟩
theorem lw_p3 : lw_okq (⟨"GainsReckoner", "checkRoomForTrade", "()V"⟩, 4) := ⟨⟨by decide +kernel, by decide +kernel⟩, List.mem_of_getElem? (i := 16) (by decide +kernel), List.mem_of_getElem? (i := 322) (by decide +kernel), List.mem_of_getElem? (i := 323) (by decide +kernel)⟩
theorem lw_p4 : lw_okq (⟨"GainsReckoner$Sheet", "openRows", "(LGainsReckoner$Journal;I)V"⟩, 10) := ⟨⟨by decide +kernel, by decide +kernel⟩, List.mem_of_getElem? (i := 93) (by decide +kernel), List.mem_of_getElem? (i := 359) (by decide +kernel), List.mem_of_getElem? (i := 360) (by decide +kernel)⟩
theorem lw_p5 : lw_okq (⟨"GainsReckoner$Sheet", "openRow", "(I)V"⟩, 10) := ⟨⟨by decide +kernel, by decide +kernel⟩, List.mem_of_getElem? (i := 93) (by decide +kernel), List.mem_of_getElem? (i := 367) (by decide +kernel), List.mem_of_getElem? (i := 368) (by decide +kernel)⟩
theorem lw_p6 : lw_okq (⟨"GainsReckoner$Sheet", "addTrade", "(LGainsReckoner$Journal;II)V"⟩, 10) := ⟨⟨by decide +kernel, by decide +kernel⟩, List.mem_of_getElem? (i := 93) (by decide +kernel), List.mem_of_getElem? (i := 379) (by decide +kernel), List.mem_of_getElem? (i := 380) (by decide +kernel)⟩
theorem lw_p7 : lw_okq (⟨"GainsReckoner$Sheet", "setSameDaysAside", "()V"⟩, 10) := ⟨⟨by decide +kernel, by decide +kernel⟩, List.mem_of_getElem? (i := 93) (by decide +kernel), List.mem_of_getElem? (i := 383) (by decide +kernel), List.mem_of_getElem? (i := 384) (by decide +kernel)⟩
theorem lw_p8 : lw_okq (⟨"GainsReckoner$Ledger", "matchSameDay", "(I)V"⟩, 4) := ⟨⟨by decide +kernel, by decide +kernel⟩, List.mem_of_getElem? (i := 70) (by decide +kernel), List.mem_of_getElem? (i := 390) (by decide +kernel), List.mem_of_getElem? (i := 391) (by decide +kernel)⟩
theorem lw_p9 : lw_okq (⟨"GainsReckoner$Ledger", "matchLaterDays", "(II)V"⟩, 4) := ⟨⟨by decide +kernel, by decide +kernel⟩, List.mem_of_getElem? (i := 70) (by decide +kernel), List.mem_of_getElem? (i := 402) (by decide +kernel), List.mem_of_getElem? (i := 403) (by decide +kernel)⟩
theorem lw_p10 : lw_okq (⟨"GainsReckoner$Ledger", "takeBought", "(II)I"⟩, 4) := ⟨⟨by decide +kernel, by decide +kernel⟩, List.mem_of_getElem? (i := 70) (by decide +kernel), List.mem_of_getElem? (i := 406) (by decide +kernel), List.mem_of_getElem? (i := 407) (by decide +kernel)⟩
theorem lw_p11 : lw_okq (⟨"GainsReckoner$Ledger", "takeSold", "(II)I"⟩, 4) := ⟨⟨by decide +kernel, by decide +kernel⟩, List.mem_of_getElem? (i := 70) (by decide +kernel), List.mem_of_getElem? (i := 410) (by decide +kernel), List.mem_of_getElem? (i := 411) (by decide +kernel)⟩
theorem lw_p12 : lw_okq (⟨"GainsReckoner$Ledger", "pool", "(I)V"⟩, 4) := ⟨⟨by decide +kernel, by decide +kernel⟩, List.mem_of_getElem? (i := 70) (by decide +kernel), List.mem_of_getElem? (i := 414) (by decide +kernel), List.mem_of_getElem? (i := 415) (by decide +kernel)⟩
theorem lw_p13 : lw_okq (⟨"GainsReckoner", "matchesWith", "(II)LGainsReckoner$Matches;"⟩, 4) := ⟨⟨by decide +kernel, by decide +kernel⟩, List.mem_of_getElem? (i := 16) (by decide +kernel), List.mem_of_getElem? (i := 548) (by decide +kernel), List.mem_of_getElem? (i := 549) (by decide +kernel)⟩
theorem lw_p14 : lw_okq (⟨"GainsReckoner", "netOfYear", "(I)I"⟩, 4) := ⟨⟨by decide +kernel, by decide +kernel⟩, List.mem_of_getElem? (i := 16) (by decide +kernel), List.mem_of_getElem? (i := 606) (by decide +kernel), List.mem_of_getElem? (i := 607) (by decide +kernel)⟩
theorem lw_p15 : lw_okq (⟨"GainsReckoner", "lossesOutOf", "(I)I"⟩, 4) := ⟨⟨by decide +kernel, by decide +kernel⟩, List.mem_of_getElem? (i := 16) (by decide +kernel), List.mem_of_getElem? (i := 617) (by decide +kernel), List.mem_of_getElem? (i := 618) (by decide +kernel)⟩
def lw_privs_1 : List (MethodName × Nat) := [(⟨"GainsReckoner", "ledgerAt", "(II)LGainsReckoner$Ledger;"⟩, 4), (⟨"GainsReckoner", "ledgerOf", "(I)LGainsReckoner$Ledger;"⟩, 4), (⟨"java/lang/Throwable", "fillInStackTrace", "(I)Ljava/lang/Throwable;"⟩, 6), (⟨"GainsReckoner", "checkRoomForTrade", "()V"⟩, 4), (⟨"GainsReckoner$Sheet", "openRows", "(LGainsReckoner$Journal;I)V"⟩, 10), (⟨"GainsReckoner$Sheet", "openRow", "(I)V"⟩, 10), (⟨"GainsReckoner$Sheet", "addTrade", "(LGainsReckoner$Journal;II)V"⟩, 10), (⟨"GainsReckoner$Sheet", "setSameDaysAside", "()V"⟩, 10), (⟨"GainsReckoner$Ledger", "matchSameDay", "(I)V"⟩, 4), (⟨"GainsReckoner$Ledger", "matchLaterDays", "(II)V"⟩, 4), (⟨"GainsReckoner$Ledger", "takeBought", "(II)I"⟩, 4), (⟨"GainsReckoner$Ledger", "takeSold", "(II)I"⟩, 4), (⟨"GainsReckoner$Ledger", "pool", "(I)V"⟩, 4), (⟨"GainsReckoner", "matchesWith", "(II)LGainsReckoner$Matches;"⟩, 4), (⟨"GainsReckoner", "netOfYear", "(I)I"⟩, 4), (⟨"GainsReckoner", "lossesOutOf", "(I)I"⟩, 4)]
theorem lw_r1 : ∀ q ∈ lw_privs_1, lw_okq q := List.forall_mem_cons.mpr ⟨lw_p0, List.forall_mem_cons.mpr ⟨lw_p1, List.forall_mem_cons.mpr ⟨lw_p2, List.forall_mem_cons.mpr ⟨lw_p3, List.forall_mem_cons.mpr ⟨lw_p4, List.forall_mem_cons.mpr ⟨lw_p5, List.forall_mem_cons.mpr ⟨lw_p6, List.forall_mem_cons.mpr ⟨lw_p7, List.forall_mem_cons.mpr ⟨lw_p8, List.forall_mem_cons.mpr ⟨lw_p9, List.forall_mem_cons.mpr ⟨lw_p10, List.forall_mem_cons.mpr ⟨lw_p11, List.forall_mem_cons.mpr ⟨lw_p12, List.forall_mem_cons.mpr ⟨lw_p13, List.forall_mem_cons.mpr ⟨lw_p14, List.forall_mem_cons.mpr ⟨lw_p15, fun _ h => absurd h List.not_mem_nil⟩⟩⟩⟩⟩⟩⟩⟩⟩⟩⟩⟩⟩⟩⟩⟩
theorem lw_p16 : lw_okq (⟨"GainsReckoner", "aboveAllowance", "(I)I"⟩, 4) := ⟨⟨by decide +kernel, by decide +kernel⟩, List.mem_of_getElem? (i := 16) (by decide +kernel), List.mem_of_getElem? (i := 621) (by decide +kernel), List.mem_of_getElem? (i := 622) (by decide +kernel)⟩
theorem lw_p17 : lw_okq (⟨"GainsReckonerModel", "enters", "(IIIIZ)I"⟩, 30) := ⟨⟨by decide +kernel, by decide +kernel⟩, List.mem_of_getElem? (i := 636) (by decide +kernel), List.mem_of_getElem? (i := 742) (by decide +kernel), List.mem_of_getElem? (i := 743) (by decide +kernel)⟩
theorem lw_p18 : lw_okq (⟨"GainsReckonerModel", "isBelow", "(I)Z"⟩, 30) := ⟨⟨by decide +kernel, by decide +kernel⟩, List.mem_of_getElem? (i := 636) (by decide +kernel), List.mem_of_getElem? (i := 756) (by decide +kernel), List.mem_of_getElem? (i := 757) (by decide +kernel)⟩
theorem lw_p19 : lw_okq (⟨"GainsReckonerModel", "held", "(II)J"⟩, 30) := ⟨⟨by decide +kernel, by decide +kernel⟩, List.mem_of_getElem? (i := 636) (by decide +kernel), List.mem_of_getElem? (i := 760) (by decide +kernel), List.mem_of_getElem? (i := 761) (by decide +kernel)⟩
theorem lw_p20 : lw_okq (⟨"GainsReckonerModel", "later", "(II)I"⟩, 30) := ⟨⟨by decide +kernel, by decide +kernel⟩, List.mem_of_getElem? (i := 636) (by decide +kernel), List.mem_of_getElem? (i := 764) (by decide +kernel), List.mem_of_getElem? (i := 765) (by decide +kernel)⟩
theorem lw_p21 : lw_okq (⟨"GainsReckonerModel", "asks", "(II)Z"⟩, 30) := ⟨⟨by decide +kernel, by decide +kernel⟩, List.mem_of_getElem? (i := 636) (by decide +kernel), List.mem_of_getElem? (i := 796) (by decide +kernel), List.mem_of_getElem? (i := 797) (by decide +kernel)⟩
theorem lw_p22 : lw_okq (⟨"GainsReckonerModel", "reckons", "(I)V"⟩, 30) := ⟨⟨by decide +kernel, by decide +kernel⟩, List.mem_of_getElem? (i := 636) (by decide +kernel), List.mem_of_getElem? (i := 804) (by decide +kernel), List.mem_of_getElem? (i := 805) (by decide +kernel)⟩
theorem lw_p23 : lw_okq (⟨"GainsReckonerModel", "laysDays", "(I)V"⟩, 30) := ⟨⟨by decide +kernel, by decide +kernel⟩, List.mem_of_getElem? (i := 636) (by decide +kernel), List.mem_of_getElem? (i := 808) (by decide +kernel), List.mem_of_getElem? (i := 809) (by decide +kernel)⟩
theorem lw_p24 : lw_okq (⟨"GainsReckonerModel", "pairs", "(III)V"⟩, 30) := ⟨⟨by decide +kernel, by decide +kernel⟩, List.mem_of_getElem? (i := 636) (by decide +kernel), List.mem_of_getElem? (i := 812) (by decide +kernel), List.mem_of_getElem? (i := 813) (by decide +kernel)⟩
theorem lw_p25 : lw_okq (⟨"GainsReckonerModel", "pools", "()V"⟩, 30) := ⟨⟨by decide +kernel, by decide +kernel⟩, List.mem_of_getElem? (i := 636) (by decide +kernel), List.mem_of_getElem? (i := 819) (by decide +kernel), List.mem_of_getElem? (i := 820) (by decide +kernel)⟩
theorem lw_p26 : lw_okq (⟨"GainsReckonerModel", "placeOf", "(I)I"⟩, 30) := ⟨⟨by decide +kernel, by decide +kernel⟩, List.mem_of_getElem? (i := 636) (by decide +kernel), List.mem_of_getElem? (i := 823) (by decide +kernel), List.mem_of_getElem? (i := 824) (by decide +kernel)⟩
theorem lw_p27 : lw_okq (⟨"GainsReckonerModel", "found", "(II)I"⟩, 30) := ⟨⟨by decide +kernel, by decide +kernel⟩, List.mem_of_getElem? (i := 636) (by decide +kernel), List.mem_of_getElem? (i := 847) (by decide +kernel), List.mem_of_getElem? (i := 848) (by decide +kernel)⟩
theorem lw_p28 : lw_okq (⟨"GainsReckonerModel", "ahead", "(I)I"⟩, 30) := ⟨⟨by decide +kernel, by decide +kernel⟩, List.mem_of_getElem? (i := 636) (by decide +kernel), List.mem_of_getElem? (i := 851) (by decide +kernel), List.mem_of_getElem? (i := 852) (by decide +kernel)⟩
theorem lw_p29 : lw_okq (⟨"GainsReckonerModel", "gained", "(II)I"⟩, 30) := ⟨⟨by decide +kernel, by decide +kernel⟩, List.mem_of_getElem? (i := 636) (by decide +kernel), List.mem_of_getElem? (i := 879) (by decide +kernel), List.mem_of_getElem? (i := 880) (by decide +kernel)⟩
theorem lw_p30 : lw_okq (⟨"GainsReckonerModel", "isYear", "(I)Z"⟩, 30) := ⟨⟨by decide +kernel, by decide +kernel⟩, List.mem_of_getElem? (i := 636) (by decide +kernel), List.mem_of_getElem? (i := 887) (by decide +kernel), List.mem_of_getElem? (i := 888) (by decide +kernel)⟩
theorem lw_p31 : lw_okq (⟨"GainsReckonerModel", "netOf", "(I)I"⟩, 30) := ⟨⟨by decide +kernel, by decide +kernel⟩, List.mem_of_getElem? (i := 636) (by decide +kernel), List.mem_of_getElem? (i := 891) (by decide +kernel), List.mem_of_getElem? (i := 892) (by decide +kernel)⟩
def lw_privs_2 : List (MethodName × Nat) := [(⟨"GainsReckoner", "aboveAllowance", "(I)I"⟩, 4), (⟨"GainsReckonerModel", "enters", "(IIIIZ)I"⟩, 30), (⟨"GainsReckonerModel", "isBelow", "(I)Z"⟩, 30), (⟨"GainsReckonerModel", "held", "(II)J"⟩, 30), (⟨"GainsReckonerModel", "later", "(II)I"⟩, 30), (⟨"GainsReckonerModel", "asks", "(II)Z"⟩, 30), (⟨"GainsReckonerModel", "reckons", "(I)V"⟩, 30), (⟨"GainsReckonerModel", "laysDays", "(I)V"⟩, 30), (⟨"GainsReckonerModel", "pairs", "(III)V"⟩, 30), (⟨"GainsReckonerModel", "pools", "()V"⟩, 30), (⟨"GainsReckonerModel", "placeOf", "(I)I"⟩, 30), (⟨"GainsReckonerModel", "found", "(II)I"⟩, 30), (⟨"GainsReckonerModel", "ahead", "(I)I"⟩, 30), (⟨"GainsReckonerModel", "gained", "(II)I"⟩, 30), (⟨"GainsReckonerModel", "isYear", "(I)Z"⟩, 30), (⟨"GainsReckonerModel", "netOf", "(I)I"⟩, 30)]
theorem lw_r2 : ∀ q ∈ lw_privs_2, lw_okq q := List.forall_mem_cons.mpr ⟨lw_p16, List.forall_mem_cons.mpr ⟨lw_p17, List.forall_mem_cons.mpr ⟨lw_p18, List.forall_mem_cons.mpr ⟨lw_p19, List.forall_mem_cons.mpr ⟨lw_p20, List.forall_mem_cons.mpr ⟨lw_p21, List.forall_mem_cons.mpr ⟨lw_p22, List.forall_mem_cons.mpr ⟨lw_p23, List.forall_mem_cons.mpr ⟨lw_p24, List.forall_mem_cons.mpr ⟨lw_p25, List.forall_mem_cons.mpr ⟨lw_p26, List.forall_mem_cons.mpr ⟨lw_p27, List.forall_mem_cons.mpr ⟨lw_p28, List.forall_mem_cons.mpr ⟨lw_p29, List.forall_mem_cons.mpr ⟨lw_p30, List.forall_mem_cons.mpr ⟨lw_p31, fun _ h => absurd h List.not_mem_nil⟩⟩⟩⟩⟩⟩⟩⟩⟩⟩⟩⟩⟩⟩⟩⟩
theorem lw_p32 : lw_okq (⟨"GainsReckonerModel", "into", "(I)I"⟩, 30) := ⟨⟨by decide +kernel, by decide +kernel⟩, List.mem_of_getElem? (i := 636) (by decide +kernel), List.mem_of_getElem? (i := 899) (by decide +kernel), List.mem_of_getElem? (i := 900) (by decide +kernel)⟩
theorem lw_p33 : lw_okq (⟨"GainsReckonerModel", "above", "(I)I"⟩, 30) := ⟨⟨by decide +kernel, by decide +kernel⟩, List.mem_of_getElem? (i := 636) (by decide +kernel), List.mem_of_getElem? (i := 903) (by decide +kernel), List.mem_of_getElem? (i := 904) (by decide +kernel)⟩
def lw_privs_3 : List (MethodName × Nat) := [(⟨"GainsReckonerModel", "into", "(I)I"⟩, 30), (⟨"GainsReckonerModel", "above", "(I)I"⟩, 30)]
theorem lw_r3 : ∀ q ∈ lw_privs_3, lw_okq q := List.forall_mem_cons.mpr ⟨lw_p32, List.forall_mem_cons.mpr ⟨lw_p33, fun _ h => absurd h List.not_mem_nil⟩⟩
def lw_privs : List (MethodName × Nat) := lw_privs_1 ++ (lw_privs_2 ++ (lw_privs_3))
def lw_tbl : List Cond := k2_sels lw_privs ++ tables_1
theorem lw_privs_ok : ∀ q ∈ lw_privs, lw_okq q := by
  show ∀ q ∈ lw_privs_1 ++ (lw_privs_2 ++ (lw_privs_3)), lw_okq q
  exact List.forall_mem_append.mpr ⟨lw_r1, List.forall_mem_append.mpr ⟨lw_r2, lw_r3⟩⟩
-- ===== end of PART A; then your names; then what follows =====
end
section
/-! ===== BEGIN words of one list among another's, by their places ===== -/
theorem goodIn_r {big : List Cond} (ws : List Cond) (ps : List Nat) (hp : ws = ps.filterMap (fun i => big[i]?)) (h : ws.all goodWord = true) : GoodIn big ws := by
  intro w hw
  have h1 := List.all_eq_true.mp h w hw
  rw [hp] at hw
  obtain ⟨i, -, hi⟩ := List.mem_filterMap.mp hw
  have hm : w ∈ big := by first | exact List.mem_of_getElem? hi | exact List.getElem?_mem hi
  exact ⟨hm, good_of_word h1⟩
theorem goodIn_app {big a b : List Cond} (ha : GoodIn big a) (hb : GoodIn big b) : GoodIn big (a ++ b) := fun w h => (List.mem_append.mp h).elim (ha w) (hb w)
theorem goodIn_ca {big a b : List Cond} {c : Cond} (ha : GoodIn big (c :: a)) (hb : GoodIn big b) : GoodIn big (c :: (a ++ b)) := fun w h => (List.mem_cons.mp h).elim (fun e => ha w (List.mem_cons.mpr (Or.inl e))) (fun h => (List.mem_append.mp h).elim (fun h => ha w (List.mem_cons.mpr (Or.inr h))) (hb w))
theorem goodIn_sub {big ws : List Cond} (hm : ∀ w ∈ ws, w ∈ big) (h : ws.all goodWord = true) : GoodIn big ws := fun w hw => ⟨hm w hw, good_of_word (List.all_eq_true.mp h w hw)⟩
/-! ===== END ===== -/

/-! ===== BEGIN exceptions that leave a method, and their catching by the caller (launches without stack traces) ===== -/
section VXA
/-! The laws vx_back, vx_callV, vx_callS, vx_callSW, vx_throw0, vx_throwS follow proofs of the library, with one case more: JvmDerived/Free/Laws.lean (Back.of_free), Shelf42/LK1.lean (callV, callS), Shelf/KitTraced.lean (throwNew0V, throwNewS). -/
/-- where a method has thrown q: the class by its name, the cell, what was written, the world -/
def vx_T (XC : String → State → State → Prop) (st : State) (q : Addr) (t : State) (mc ms : Nat) (free : Addr → Prop) : Prop :=
  ∃ (E : String) (ce : Cell) (L : List Loc), XC E st t ∧ t.heap[q]? = some ce ∧ ce.vm = .none ∧ st.vm.findClass E = some ce.cls ∧ st.WarmedH t.vm ∧ st.sameButNew ({ t with vm := st.vm } : State) L mc ms ∧ ∀ z ∈ L, free z.base
def vx_Q (Qc : Array Value → State → Outcome → State → Prop) (XC : String → State → State → Prop) (mc ms : Nat) (free : Addr → Prop) : Array Value → State → Outcome → State → Prop := fun a st o t =>
  (Qc a st o t ∧ ∃ L, FrameEnd st o t L mc ms ∧ ∀ q ∈ L, free q.base) ∨ ∃ q, o = .threw q ∧ vx_T XC st q t mc ms free
/-- a callee that returns or throws -/
def vx_Met (l : Launch) (y : MethodName) (ws : List Cond) (rm : Room) (Pc : Array Value → State → Prop) (Qc : Array Value → State → Outcome → State → Prop) (XC : String → State → State → Prop) (mc ms : Nat) (free : Addr → Prop) : Prop :=
  MetFree l y (headSpec ws rm) Pc (fun _ _ _ _ _ => True) (vx_Q Qc XC mc ms free)
def vx_Post (XC : String → State → State → Prop) (mc ms : Nat) (free : Addr → Prop) : Pt → Array Value → Addr → Pt → Prop := fun A a q B =>
  ∃ (g : JFrame) (mk : MethodId) (t : State) (L : List Loc) (E : String) (ce : Cell), B.U.heap = t.heap ∧ B.U.vm = t.vm ∧ XC E (A.U.calling g mk a) t ∧ t.heap[q]? = some ce ∧ ce.vm = .none ∧ A.U.vm.findClass E = some ce.cls ∧ B.locs = A.locs ++ L ∧ (∀ z ∈ L, free z.base) ∧ B.cells = A.cells + mc ∧ B.slots = A.slots + ms
def vx_Back (l : Launch) (R : Room) (p : Program) (e : Env) (below : List Frame) (s : State) (sargs : Array Value) (y : MethodName) (len W9 : Nat)
    (Pre : Pt → Array Value → Prop) (Post : Pt → Array Value → Option Value → Pt → Prop) (PostX : Pt → Array Value → Addr → Pt → Prop) : Prop :=
  ∀ (m : MethodId) (meth : Method) (c : Code) (A : Pt) (g : JFrame) (ig : Instr) (mk : MethodId) (a : Array Value),
    Stand p l e R s m sargs below meth c A.U A.locs A.cells A.slots → g.method = m → g.locals.size = c.maxLocals → decode c.code g.pc = .ok (ig, len) →
    2 * g.monitorRoom + (g.stack.map fun v => v.category).sum ≤ W9 → A.U.methodNamed? y = some mk → Pre A a →
    (∃ (v : Option Value) (B : Pt), Stand p l e R s m sargs below meth c B.U B.locs B.cells B.slots ∧ Post A a v B ∧
      Steps p.tables e below (doInvoke e (A.U.setTop g) [] mk a).1 (B.U.setTop { g with pc := g.pc + len, stack := v.toList ++ g.stack })) ∨
    (∃ (q : Addr) (B : Pt), Stand p l e R s m sargs below meth c B.U B.locs B.cells B.slots ∧ PostX A a q B ∧
      Steps p.tables e below (doInvoke e (A.U.setTop g) [] mk a).1 ((B.U.setTop g).pushFrame (.throwing q)))
section Payer
variable {l : Launch} {R : Room} {p : Program} {e : Env} {below : List Frame} {s : State} {sargs : Array Value} {y : MethodName} {len W9 : Nat}
theorem vx_back {ws : List Cond} {rm : Room} {Pc : Array Value → State → Prop} {Qc : Array Value → State → Outcome → State → Prop} {XC : String → State → State → Prop} {mc ms : Nat} {free : Addr → Prop} {bytes : ByteArray} {maxL : Nat} {ret : Option FieldType}
    (hM : vx_Met l y ws rm Pc Qc XC mc ms free) (hblind : FrameBlind Pc) (hrc : rm.cells = mc) (hrs : rm.slots = ms)
    (hframes : rm.frames + 1 ≤ R.frames) (hlocals : W9 + (maxL + 11) + rm.locals ≤ R.locals)
    (hws : ∀ w ∈ ws, ∀ a' U, s.WarmedH U.vm → w.before a' U = true) (hcode : Cond.code y bytes maxL ret ∈ ws) (hinit : ∀ a' U, s.WarmedH U.vm → (Cond.initialized y.cls).before a' U = true) :
    vx_Back l R p e below s sargs y len W9 (PreOf R mc ms Pc) (PostOf Qc mc ms free) (vx_Post XC mc ms free) := by
  intro m meth c A g ig mk a X hg hsize hdg hW hn hp
  have h1 : (headSpec ws rm).pre.before a A.U = true := atoms_intro fun w hw => hws w hw _ _ X.warmed
  have h2 : (Cond.code y bytes maxL ret).before a A.U = true := hws _ hcode _ _ X.warmed
  have h3 : (Cond.initialized y.cls).before a A.U = true := hinit _ _ X.warmed
  have h4 : A.cells + (headSpec ws rm).room.cells ≤ R.cells := by rw [show (headSpec ws rm).room.cells = mc from hrc]; exact hp.1
  have h5 : A.slots + (headSpec ws rm).room.slots ≤ R.slots := by rw [show (headSpec ws rm).room.slots = ms from hrs]; exact hp.2.1
  have hPc : Pc a (A.U.calling g mk a) := hblind _ _ _ _ hp.2.2
  obtain ⟨U, Ls, c0, s0⟩ := A
  dsimp only [Pt.U, Pt.locs, Pt.cells, Pt.slots] at h1 h2 h3 h4 h5 X hn hPc ⊢
  obtain ⟨methY, cY, hmY, hcY, -, hlY, -, -, -, -⟩ := Cond.code_spec hn h2
  obtain ⟨kY, hkY, -⟩ := className_of_methodNamed hn
  have hinitY : kY.init = .initialized := Cond.initialized_spec (findClass_of_methodNamed hn) hkY h3
  have h : At U g.method c below := by rw [hg]; exact X.here
  have hlocals9 : W9 + (maxL + 11) + (headSpec ws rm).room.locals ≤ R.locals := hlocals
  have happ : (headSpec ws rm).appliesLoose y e.platform (U.calling g mk a) = true :=
    Spec.appliesLoose_calling (g := g) h hdg hn hkY hinitY
      (X.room_calling (g := g) (R' := (headSpec ws rm).room) hsize hmY hcY hframes (by rw [hlY]; omega) h4 h5) h1
  obtain ⟨mid, hmid⟩ := h.above
  have hfr : (U.setTop g).frames = (.java g :: mid) ++ below := by rw [State.frames_setTop' g h.top, hmid]; rfl
  obtain ⟨o, s₂, hsteps, -, hend, hq⟩ := Steps.callFree hM p X.admits X.cas X.clock (acts := []) hfr happ hPc trivial
  have hq' : vx_Q Qc XC mc ms free a (U.calling g mk a) o s₂ := hq
  rw [State.frames_setTop' g h.top] at hend
  obtain ⟨g₀, hg0⟩ := Option.isSome_iff_exists.mp h.top
  obtain ⟨r, hr⟩ := State.topJava?_eq_some.mp hg0
  have hr' : (({ U with heap := s₂.heap, slotsUsed := s₂.slotsUsed } : State).setVm s₂.vm).frames = .java g₀ :: r := hr
  rcases hq' with ⟨hqc, L, hfe, hL⟩ | ⟨q, rfl, E, ce, L, hx, hce, hcv, hcl, hW₂, hsm, hL⟩
  · obtain ⟨⟨v, rfl⟩, hW₂, e2, q2, q3, q4, q5, q6⟩ := id hfe
    have e3 : s₂ = ({ (U.calling g mk a).setFrames s₂.frames with heap := s₂.heap, slotsUsed := s₂.slotsUsed } : State).setVm s₂.vm := by
      have : s₂ = ({ s₂ with vm := (U.calling g mk a).vm } : State).setVm s₂.vm := rfl
      rw [e2] at this
      exact this
    obtain ⟨c₂, i₂, len₂, hc₂, hd₂, hf₂⟩ := hend
    have hW' : U.WarmedH s₂.vm := hW₂
    have hcc : c₂ = c := by
      have h1 : s₂.code? g.method = U.code? g.method := by
        rw [State.code?_eq, State.code?_eq, hW'.alike.method?]
      exact Option.some.inj (hc₂.symm.trans (h1.trans h.code))
    subst hcc
    have hlen : len₂ = len := by rw [hdg] at hd₂; cases hd₂; rfl
    subst hlen
    have hs₂ : s₂ = (({ U with heap := s₂.heap, slotsUsed := s₂.slotsUsed } : State).setVm s₂.vm).setTop { g with pc := g.pc + len₂, stack := v.toList ++ g.stack } := by
      refine e3.trans ?_
      rw [hf₂, State.calling_eq h.top, State.setFrames_setFrames, State.setTop_of_frames _ hr', hr]
      rfl
    have hsame : U.sameButNew ({ U with heap := s₂.heap, slotsUsed := s₂.slotsUsed } : State) L mc ms := by
      refine ⟨?_, q2, q3, q4, q5, q6⟩
      obtain ⟨t, ht, -⟩ := State.frames_cons hr
      show ({ U with heap := s₂.heap, slotsUsed := s₂.slotsUsed } : State) = { U.setFrames U.frames with heap := s₂.heap, slotsUsed := s₂.slotsUsed }
      rw [State.setFrames_self ht]
    subst hg
    refine Or.inl ⟨v, ⟨(({ U with heap := s₂.heap, slotsUsed := s₂.slotsUsed } : State).setVm s₂.vm), Ls ++ L, c0 + mc, s0 + ms⟩,
      ⟨X.admits, X.cas, X.clock, X.frames, X.room, X.hears, X.method, X.code, (X.here.setHeapUsed s₂.heap s₂.slotsUsed).setVm hW'.alike, X.tail, State.WarmedH.trans X.warmed hW', X.limits, X.bytes, X.same.trans (hsame.setVm s.vm)⟩,
      ⟨g, mk, s₂, L, rfl, rfl, hqc, rfl, hL, rfl, rfl⟩, ?_⟩
    show Steps p.tables e below _ ((({ U with heap := s₂.heap, slotsUsed := s₂.slotsUsed } : State).setVm s₂.vm).setTop { g with pc := g.pc + len₂, stack := v.toList ++ g.stack })
    rw [← hs₂]
    exact hsteps
  · obtain ⟨e2, q2, q3, q4, q5, q6⟩ := id hsm
    have e3 : s₂ = ({ (U.calling g mk a).setFrames s₂.frames with heap := s₂.heap, slotsUsed := s₂.slotsUsed } : State).setVm s₂.vm := by
      have : s₂ = ({ s₂ with vm := (U.calling g mk a).vm } : State).setVm s₂.vm := rfl
      rw [e2] at this
      exact this
    have hf₂ : s₂.frames = .throwing q :: .java g :: U.frames.tail := hend
    have hW' : U.WarmedH s₂.vm := hW₂
    have hs₂ : s₂ = ((({ U with heap := s₂.heap, slotsUsed := s₂.slotsUsed } : State).setVm s₂.vm).setTop g).pushFrame (.throwing q) := by
      refine e3.trans ?_
      rw [hf₂, State.calling_eq h.top, State.setFrames_setFrames, State.pushFrame, State.frames_setTop _ hr', State.setTop_of_frames _ hr', State.setFrames_setFrames, hr]
      rfl
    have hsame : U.sameButNew ({ U with heap := s₂.heap, slotsUsed := s₂.slotsUsed } : State) L mc ms := by
      refine ⟨?_, q2, q3, q4, q5, q6⟩
      obtain ⟨t, ht, -⟩ := State.frames_cons hr
      show ({ U with heap := s₂.heap, slotsUsed := s₂.slotsUsed } : State) = { U.setFrames U.frames with heap := s₂.heap, slotsUsed := s₂.slotsUsed }
      rw [State.setFrames_self ht]
    subst hg
    refine Or.inr ⟨q, ⟨(({ U with heap := s₂.heap, slotsUsed := s₂.slotsUsed } : State).setVm s₂.vm), Ls ++ L, c0 + mc, s0 + ms⟩,
      ⟨X.admits, X.cas, X.clock, X.frames, X.room, X.hears, X.method, X.code, (X.here.setHeapUsed s₂.heap s₂.slotsUsed).setVm hW'.alike, X.tail, State.WarmedH.trans X.warmed hW', X.limits, X.bytes, X.same.trans (hsame.setVm s.vm)⟩,
      ⟨g, mk, s₂, L, E, ce, rfl, rfl, hx, hce, hcv, hcl, rfl, hL, rfl, rfl⟩, ?_⟩
    show Steps p.tables e below _ (((({ U with heap := s₂.heap, slotsUsed := s₂.slotsUsed } : State).setVm s₂.vm).setTop g).pushFrame (.throwing q))
    rw [← hs₂]
    exact hsteps
end Payer
section Calls
variable {p : Program} {l : Launch} {e : Env} {R : Room} {s : State} {m : MethodId} {args : Array Value} {below : List Frame} {meth : Method} {c : Code} {T : State} {locs : List Loc} {cells slots : Nat}
theorem vx_callV (X : Stand p l e R s m args below meth c T locs cells slots) (hexec : p.tables.exec = Jvm.exec) {own C : String} {index : Nat} {y : MethodName} {bytes : ByteArray} {maxL : Nat} {ret : Option FieldType}
    (hown : s.vm.findClass own = some m.cls) (hlink : (Cond.methodLink own index y).before args s = true) (hinst : (Cond.instanceMethod y).before args s = true) (hsel : (Cond.selects C y y).before args s = true)
    (hcode : (Cond.code y bytes maxL ret).before args s = true) (hy : y.cls ≠ "java/lang/invoke/MethodHandle" ∧ y.cls ≠ "java/lang/invoke/VarHandle")
    {W9 : Nat} {Pre : Pt → Array Value → Prop} {Post : Pt → Array Value → Option Value → Pt → Prop} {PostX : Pt → Array Value → Addr → Pt → Prop} (hK : vx_Back l R p e below s args y 3 W9 Pre Post PostX)
    {b : Addr} {cellB : Cell} (hcell : T.heap[b]? = some cellB) (hobj : cellB.vm.isStatics = false) (hcls : s.vm.findClass C = some cellB.cls)
    {g : JFrame} (hg : g.method = m) (hsize : g.locals.size = c.maxLocals) {argsL rest : List Value} (hlen : ∀ sig, parseMethodDescriptor y.desc = some sig → argsL.length = sig.parameters.length)
    (hstack : g.stack = argsL.reverse ++ .ref b :: rest) (hW : 2 * g.monitorRoom + (rest.map fun v => v.category).sum ≤ W9) (hdg : decode c.code g.pc = .ok (.invokevirtual index, 3))
    (hpre : ∀ vm₁, s.WarmedH vm₁ → Pre ⟨T.setVm vm₁, locs, cells, slots⟩ (Value.ref b :: argsL).toArray) :
    (∃ (v : Option Value) (vm₁ : Vm) (B : Pt), s.WarmedH vm₁ ∧ Stand p l e R s m args below meth c B.U B.locs B.cells B.slots ∧ Post ⟨T.setVm vm₁, locs, cells, slots⟩ (Value.ref b :: argsL).toArray v B ∧
      ∀ target, Steps p.tables e below (B.U.setTop { g with pc := g.pc + 3, stack := v.toList ++ rest }) target → Steps p.tables e below (T.setTop g) target) ∨
    (∃ (q : Addr) (vm₁ : Vm) (B : Pt), s.WarmedH vm₁ ∧ Stand p l e R s m args below meth c B.U B.locs B.cells B.slots ∧ PostX ⟨T.setVm vm₁, locs, cells, slots⟩ (Value.ref b :: argsL).toArray q B ∧
      Steps p.tables e below (T.setTop g) ((B.U.setTop { g with stack := rest }).pushFrame (.throwing q))) := by
  obtain ⟨mk, methM, hnamed, hmethM, hstM, habM⟩ := Cond.instanceMethod_spec hinst
  obtain ⟨methM', cM, hmethM', -, -, -, -, -, -, hsigM⟩ := Cond.code_spec hnamed hcode
  cases hmethM.symm.trans hmethM'
  obtain ⟨c2, r2, m2, q1, q2, q3, q4, kP, hkP, hkPi⟩ := Cond.selects_spec hsel
  cases hcls.symm.trans q1
  cases (State.methodFound?_of_named hnamed hy).symm.trans q2
  cases hnamed.symm.trans q3
  have hselP : selectMethod e.platform s.vm cellB.cls mk = .method mk := by rw [Launch.admits_selectMethod X.admits]; exact q4
  obtain ⟨vm₁, X₁, hstep₁⟩ := X.invokevirtual hexec hown hlink hnamed hmethM hstM hkP hkPi hy (a := b) (cell := cellB) hcell
    (fun z h => by rw [h] at hobj; cases hobj) hselP hmethM habM hkP hkPi (g := g) hg (argsL := argsL) (rest := rest) (hlen _ hsigM) hstack hdg
  rcases hK m meth c ⟨T.setVm vm₁, locs, cells, slots⟩ { g with stack := rest } (.invokevirtual index) mk (Value.ref b :: argsL).toArray X₁ hg hsize hdg hW (X₁.named hnamed) (hpre vm₁ X₁.warmed) with ⟨v, B, X', hpost, hsteps⟩ | ⟨q, B, X', hpost, hsteps⟩
  · exact Or.inl ⟨v, vm₁, B, X₁.warmed, X', hpost, fun target h => hstep₁ _ fun acts => by rw [doInvoke_state]; exact hsteps.trans h⟩
  · exact Or.inr ⟨q, vm₁, B, X₁.warmed, X', hpost, hstep₁ _ fun acts => by rw [doInvoke_state]; exact hsteps⟩
theorem vx_callS (X : Stand p l e R s m args below meth c T locs cells slots) (hexec : p.tables.exec = Jvm.exec) {own : String} {index : Nat} {y : MethodName} {bytes : ByteArray} {maxL : Nat} {ret : Option FieldType}
    (hown : s.vm.findClass own = some m.cls) (hlink : (Cond.methodLink own index y).before args s = true) (hstat : (Cond.static y).before args s = true) (hinit : (Cond.initialized y.cls).before args s = true)
    (hcode : (Cond.code y bytes maxL ret).before args s = true) (hy : y.cls ≠ "java/lang/invoke/MethodHandle" ∧ y.cls ≠ "java/lang/invoke/VarHandle")
    {W9 : Nat} {Pre : Pt → Array Value → Prop} {Post : Pt → Array Value → Option Value → Pt → Prop} {PostX : Pt → Array Value → Addr → Pt → Prop} (hK : vx_Back l R p e below s args y 3 W9 Pre Post PostX)
    {g : JFrame} (hg : g.method = m) (hsize : g.locals.size = c.maxLocals) {argsL rest : List Value} (hlen : ∀ sig, parseMethodDescriptor y.desc = some sig → argsL.length = sig.parameters.length)
    (hstack : g.stack = argsL.reverse ++ rest) (hW : 2 * g.monitorRoom + (rest.map fun v => v.category).sum ≤ W9) (hdg : decode c.code g.pc = .ok (.invokestatic index, 3))
    (hpre : ∀ vm₁, s.WarmedH vm₁ → Pre ⟨T.setVm vm₁, locs, cells, slots⟩ argsL.toArray) :
    (∃ (v : Option Value) (vm₁ : Vm) (B : Pt), s.WarmedH vm₁ ∧ Stand p l e R s m args below meth c B.U B.locs B.cells B.slots ∧ Post ⟨T.setVm vm₁, locs, cells, slots⟩ argsL.toArray v B ∧
      ∀ target, Steps p.tables e below (B.U.setTop { g with pc := g.pc + 3, stack := v.toList ++ rest }) target → Steps p.tables e below (T.setTop g) target) ∨
    (∃ (q : Addr) (vm₁ : Vm) (B : Pt), s.WarmedH vm₁ ∧ Stand p l e R s m args below meth c B.U B.locs B.cells B.slots ∧ PostX ⟨T.setVm vm₁, locs, cells, slots⟩ argsL.toArray q B ∧
      Steps p.tables e below (T.setTop g) ((B.U.setTop { g with stack := rest }).pushFrame (.throwing q))) := by
  obtain ⟨mk, hnamed⟩ := Cond.code_named hcode
  obtain ⟨methM, cM, hmethM, -, -, -, -, -, -, hsigM⟩ := Cond.code_spec hnamed hcode
  have hstatic : methM.isStatic = true := Cond.static_spec hnamed hmethM hstat
  obtain ⟨kP, hkP, -⟩ := className_of_methodNamed hnamed
  have hinitP : kP.init = .initialized := Cond.initialized_spec (findClass_of_methodNamed hnamed) hkP hinit
  obtain ⟨vm₁, X₁, hstep₁⟩ := X.invokestatic hexec hown hlink hnamed hmethM hstatic hkP hinitP hy (g := g) hg (argsL := argsL) (rest := rest) (hlen _ hsigM) hstack hdg
  rcases hK m meth c ⟨T.setVm vm₁, locs, cells, slots⟩ { g with stack := rest } (.invokestatic index) mk argsL.toArray X₁ hg hsize hdg hW (X₁.named hnamed) (hpre vm₁ X₁.warmed) with ⟨v, B, X', hpost, hsteps⟩ | ⟨q, B, X', hpost, hsteps⟩
  · exact Or.inl ⟨v, vm₁, B, X₁.warmed, X', hpost, fun target h => hstep₁ _ fun acts => by rw [doInvoke_state]; exact hsteps.trans h⟩
  · exact Or.inr ⟨q, vm₁, B, X₁.warmed, X', hpost, hstep₁ _ fun acts => by rw [doInvoke_state]; exact hsteps⟩
end Calls
theorem vx_cls {s : State} {T : State} {vm₁ : Vm} {E : String} {k : ClassId} (hW : s.WarmedH vm₁) (h : (T.setVm vm₁).vm.findClass E = some k) : s.vm.findClass E = some k := by
  have h1 : vm₁.findClass E = some k := h
  rw [hW.alike.findClass] at h1
  exact h1
/-- the method's frame g, with q thrown over it -/
def vx_W (p : Program) (l : Launch) (e : Env) (R : Room) (s : State) (m : MethodId) (args : Array Value) (below : List Frame) (meth : Method) (c : Code) (H : Heap) (locs : List Loc) (cells slots : Nat) (Q : State → Prop) (g : JFrame) (q : Addr) : Prop :=
  ∀ T : State, T.heap = H → Stand p l e R s m args below meth c T locs cells slots → ∃ t, Steps p.tables e below ((T.setTop g).pushFrame (.throwing q)) t ∧ Q t
def vx_Run (p : Program) (l : Launch) (e : Env) (R : Room) (s : State) (m : MethodId) (args : Array Value) (below : List Frame) (meth : Method) (c : Code) (H : Heap) (locs : List Loc) (cells slots mc ms : Nat) (g : JFrame) (rest : List Value) (Qa : State → Outcome → State → Prop) (XC : String → State → State → Prop) (free : Addr → Prop) : Prop :=
  ∀ T : State, T.heap = H → Stand p l e R s m args below meth c T locs cells slots →
    (∃ (v : Option Value) (st₀ t T' : State) (L : List Loc), st₀.heap = H ∧ Stand p l e R s m args below meth c T' (locs ++ L) (cells + mc) (slots + ms) ∧ (∀ q ∈ L, free q.base) ∧ T'.heap = t.heap ∧ T'.vm = t.vm ∧ Qa st₀ (.returned v) t ∧
      Goes p e below T g T' { g with pc := g.pc + 3, stack := v.toList ++ rest }) ∨
    (∃ (q : Addr) (st₀ t T' : State) (L : List Loc) (E : String) (ce : Cell), st₀.heap = H ∧ Stand p l e R s m args below meth c T' (locs ++ L) (cells + mc) (slots + ms) ∧ (∀ z ∈ L, free z.base) ∧ T'.heap = t.heap ∧ T'.vm = t.vm ∧ XC E st₀ t ∧ t.heap[q]? = some ce ∧ ce.vm = .none ∧ s.vm.findClass E = some ce.cls ∧
      Steps p.tables e below (T.setTop g) ((T'.setTop { g with stack := rest }).pushFrame (.throwing q)))
def vx_X {S : Type} (px : S → Prop) (B : String → S → State → Prop) (A : Nat → Prop) : String → State → State → Prop := fun E st t => ∃ u : S, px u ∧ B E u t ∧ va_F A st t
section Runs
variable {p : Program} {l : Launch} {e : Env} {R : Room} {s : State} {m : MethodId} {args : Array Value} {below : List Frame} {meth : Method} {c : Code} {H : Heap} {locs : List Loc} {cells slots : Nat}
variable {y : MethodName} {bytes cc : ByteArray} {maxL nL mc ms n index : Nat} {ret : Option FieldType} {ws : List Cond} {rm : Room} {Pc : Array Value → State → Prop} {Qc : Array Value → State → Outcome → State → Prop} {XC : String → State → State → Prop} {free : Addr → Prop} {Ts : List Cond} {own C : String} {b : Addr} {As rest : List Value} {g : JFrame}
theorem vx_callBack (cb : CallB R s args own index y bytes maxL ret ws rm mc ms n) (hM : vx_Met l y ws rm Pc Qc XC mc ms free) (hbl : FrameBlind Pc) : vx_Back l R p e below s args y 3 8 (PreOf R mc ms Pc) (PostOf Qc mc ms free) (vx_Post XC mc ms free) := by
  obtain ⟨hrc, hrs, hfr, hlo, hws, hcw, -, hini, -⟩ := cb
  exact vx_back (bytes := bytes) (maxL := maxL) (ret := ret) hM hbl hrc hrs hfr hlo hws hcw (fun a' U hW => word_at hW (Or.inl (by first | rfl | simp [Cond.onTables, Cond.keeps, Cond.steady])) hini)
theorem vx_runV (S : CallFix p m c cc nL s args Ts own) (hM : vx_Met l y ws rm Pc Qc XC mc ms free) (cw : CallW R s args own C index y bytes maxL ret ws rm mc ms n) (hp : PreV s H C b Pc As)
    (hg : g.method = m) (hn : As.length = n) (hsize : g.locals.size = nL) (hstack : g.stack = As.reverse ++ .ref b :: rest) (hW : 2 * g.monitorRoom + (rest.map fun v => v.category).sum ≤ 8) (hdg : decode cc g.pc = .ok (.invokevirtual index, 3)) (hf : cells + mc ≤ R.cells ∧ slots + ms ≤ R.slots) :
    vx_Run p l e R s m args below meth c H locs cells slots mc ms g rest (Qc (Value.ref b :: As).toArray) XC free := by
  have hK : vx_Back l R p e below s args y 3 8 (PreOf R mc ms Pc) (PostOf Qc mc ms free) (vx_Post XC mc ms free) := vx_callBack cw.1 hM hp.1
  obtain ⟨⟨-, -, -, -, -, -, hcode, -, hy, hlen, hl⟩, hin, hse⟩ := cw
  obtain ⟨hx, hb, hml, ho, -⟩ := S
  obtain ⟨-, ⟨cellB, hcB, hoB, hclB⟩, hPc⟩ := hp
  intro T hT X
  rcases vx_callV X hx (C := C) (bytes := bytes) (maxL := maxL) (ret := ret) ho hl hin hse hcode hy hK (by rw [hT]; exact hcB) hoB hclB hg (hsize.trans hml.symm) (argsL := As) (rest := rest) (fun sig h => hn.trans (hlen sig h)) hstack hW (by rw [hb]; exact hdg)
    (fun vm₁ hW₁ => ⟨hf.1, hf.2, hPc (T.setVm vm₁) hT hW₁⟩) with ⟨v, vm₁, ⟨U', l2, c2, s2⟩, hW₁, X', ⟨g', mk, t, L, e1, e2, hq, h1, hL, h2, h3⟩, st⟩ | ⟨q, vm₁, ⟨U', l2, c2, s2⟩, hW₁, X', ⟨g', mk, t, L, E, ce, e1, e2, hq, hce, hcv, hcl, h1, hL, h2, h3⟩, st⟩
  · dsimp only [Pt.U, Pt.locs, Pt.cells, Pt.slots] at X' e1 e2 h1 h2 h3 st
    subst h1; subst h2; subst h3
    exact Or.inl ⟨v, (T.setVm vm₁).calling g' mk (Value.ref b :: As).toArray, t, U', L, hT, X', hL, e1, e2, hq, st⟩
  · dsimp only [Pt.U, Pt.locs, Pt.cells, Pt.slots] at X' e1 e2 h1 h2 h3 st hcl
    subst h1; subst h2; subst h3
    exact Or.inr ⟨q, (T.setVm vm₁).calling g' mk (Value.ref b :: As).toArray, t, U', L, E, ce, hT, X', hL, e1, e2, hq, hce, hcv, vx_cls hW₁ hcl, st⟩
theorem vx_runS (S : CallFix p m c cc nL s args Ts own) (hM : vx_Met l y ws rm Pc Qc XC mc ms free) (cw : CallB R s args own index y bytes maxL ret ws rm mc ms n ∧ (Cond.static y).before args s = true) (hp : PreS s H Pc As)
    (hg : g.method = m) (hn : As.length = n) (hsize : g.locals.size = nL) (hstack : g.stack = As.reverse ++ rest) (hW : 2 * g.monitorRoom + (rest.map fun v => v.category).sum ≤ 8) (hdg : decode cc g.pc = .ok (.invokestatic index, 3)) (hf : cells + mc ≤ R.cells ∧ slots + ms ≤ R.slots) :
    vx_Run p l e R s m args below meth c H locs cells slots mc ms g rest (Qc As.toArray) XC free := by
  have hK : vx_Back l R p e below s args y 3 8 (PreOf R mc ms Pc) (PostOf Qc mc ms free) (vx_Post XC mc ms free) := vx_callBack cw.1 hM hp.1
  obtain ⟨⟨-, -, -, -, -, -, hcode, hini, hy, hlen, hl⟩, hstt⟩ := cw
  obtain ⟨hx, hb, hml, ho, -⟩ := S
  intro T hT X
  rcases vx_callS X hx (bytes := bytes) (maxL := maxL) (ret := ret) ho hl hstt hini hcode hy hK hg (hsize.trans hml.symm) (argsL := As) (rest := rest) (fun sig h => hn.trans (hlen sig h)) hstack hW (by rw [hb]; exact hdg)
    (fun vm₁ hW₁ => ⟨hf.1, hf.2, hp.2 (T.setVm vm₁) hT hW₁⟩) with ⟨v, vm₁, ⟨U', l2, c2, s2⟩, hW₁, X', ⟨g', mk, t, L, e1, e2, hq, h1, hL, h2, h3⟩, st⟩ | ⟨q, vm₁, ⟨U', l2, c2, s2⟩, hW₁, X', ⟨g', mk, t, L, E, ce, e1, e2, hq, hce, hcv, hcl, h1, hL, h2, h3⟩, st⟩
  · dsimp only [Pt.U, Pt.locs, Pt.cells, Pt.slots] at X' e1 e2 h1 h2 h3 st
    subst h1; subst h2; subst h3
    exact Or.inl ⟨v, (T.setVm vm₁).calling g' mk As.toArray, t, U', L, hT, X', hL, e1, e2, hq, st⟩
  · dsimp only [Pt.U, Pt.locs, Pt.cells, Pt.slots] at X' e1 e2 h1 h2 h3 st hcl
    subst h1; subst h2; subst h3
    exact Or.inr ⟨q, (T.setVm vm₁).calling g' mk As.toArray, t, U', L, E, ce, hT, X', hL, e1, e2, hq, hce, hcv, vx_cls hW₁ hcl, st⟩
end Runs
section Rows
variable {p : Program} {l : Launch} {e : Env} {R : Room} {s : State} {m : MethodId} {args : Array Value} {below : List Frame} {meth : Method} {c : Code} {H : Heap} {locs : List Loc} {cells slots : Nat} {Q : State → Prop}
variable {mc ms : Nat} {free : Addr → Prop} {A0 A1 : Nat → Prop} {H0 : Heap} {a : Array Value} {pc : Nat} {ls : Array Slot} {st0 rest : List Value}
theorem vx_keep {st₀ t T' : State} {L : List Loc} (h0 : st₀.heap = H) (e1 : T'.heap = t.heap) (hS : va_S A0 H0 H locs) (hA : ∀ q, q < H.size → A1 q → A0 q) (hf : ∀ q, free q → A0 q) (hL : ∀ q ∈ L, free q.base) (hF : va_F A1 st₀ t) :
    H.size ≤ T'.heap.size ∧ (∀ q : Nat, q < H.size → ¬ A1 q → T'.heap[q]? = H[q]?) ∧ va_S A0 H0 T'.heap (locs ++ L) := by
  obtain ⟨hz, hk⟩ := hF
  rw [h0] at hz hk
  exact ⟨by rw [e1]; exact hz, fun q h1 h2 => by rw [e1]; exact hk q h1 h2,
    ⟨Nat.le_trans hS.1 (by rw [e1]; exact hz), fun q h1 h2 => by rw [e1, hk q (Nat.lt_of_lt_of_le h1 hS.1) (fun z => h2 (hA q (Nat.lt_of_lt_of_le h1 hS.1) z))]; exact hS.2.1 q h1 h2, fun q hq => by
      rcases List.mem_append.mp hq with h | h
      · exact hS.2.2 q h
      · exact hf _ (hL q h)⟩⟩
theorem vx_calli {S SX : Type} {post : Int32 → S → Prop} {px : SX → Prop} {B : S → State → Prop} {BX : String → SX → State → Prop} {AX : Nat → Prop} (hr : vx_Run p l e R s m args below meth c H locs cells slots mc ms (F0 m pc ls st0) rest (va_Qi post B A1 a) (vx_X px BX AX) free) (hS : va_S A0 H0 H locs) (hA : ∀ q, q < H.size → A1 q → A0 q) (hf : ∀ q, free q → A0 q) (hAX : ∀ q, q < H.size → AX q → A0 q)
    (kx : ∀ (E : String) (ce : Cell) (q9 : Addr) (u : SX) (t : State) (H1 : Heap) (locs1 : List Loc), t.heap = H1 → s.vm.Alike t.vm → px u → BX E u t → H.size ≤ H1.size → (∀ q : Nat, q < H.size → ¬ AX q → H1[q]? = H[q]?) → va_S A0 H0 H1 locs1 → H1[q9]? = some ce → ce.vm = .none → s.vm.findClass E = some ce.cls → vx_W p l e R s m args below meth c H1 locs1 (cells + mc) (slots + ms) Q (F0 m pc ls rest) q9)
    (kk : ∀ (r : Int32) (u : S) (t : State) (H1 : Heap) (locs1 : List Loc), t.heap = H1 → s.vm.Alike t.vm → post r u → B u t → H.size ≤ H1.size → (∀ q : Nat, q < H.size → ¬ A1 q → H1[q]? = H[q]?) → va_S A0 H0 H1 locs1 → W p l e R s m args below meth c H1 locs1 (cells + mc) (slots + ms) Q (F0 m (pc + 3) ls (.int r :: rest))) : W p l e R s m args below meth c H locs cells slots Q (F0 m pc ls st0) := by
  intro T hT X
  rcases hr T hT X with ⟨v, st₀, t, T', L, h0, X', hL, e1, e2, ⟨⟨r, u, hv, hp, hb⟩, hF⟩, st⟩ | ⟨q, st₀, t, T', L, E, ce, h0, X', hL, e1, e2, ⟨u, hp, hb, hF⟩, hce, hcv, hcl, st⟩
  · cases hv
    obtain ⟨k1, k2, k3⟩ := vx_keep h0 e1 hS hA hf hL hF
    obtain ⟨t2, a1, b1⟩ := kk r u t T'.heap (locs ++ L) e1.symm (by rw [← e2]; exact X'.warmed.alike) hp hb k1 k2 k3 T' rfl X'
    exact ⟨t2, st t2 a1, b1⟩
  · obtain ⟨k1, k2, k3⟩ := vx_keep h0 e1 hS hAX hf hL hF
    obtain ⟨t2, a1, b1⟩ := kx E ce q u t T'.heap (locs ++ L) e1.symm (by rw [← e2]; exact X'.warmed.alike) hp hb k1 k2 k3 (by rw [e1]; exact hce) hcv hcl T' rfl X'
    exact ⟨t2, st.trans a1, b1⟩
theorem vx_calll {S SX : Type} {post : Int64 → S → Prop} {px : SX → Prop} {B : S → State → Prop} {BX : String → SX → State → Prop} {AX : Nat → Prop} (hr : vx_Run p l e R s m args below meth c H locs cells slots mc ms (F0 m pc ls st0) rest (va_Ql post B A1 a) (vx_X px BX AX) free) (hS : va_S A0 H0 H locs) (hA : ∀ q, q < H.size → A1 q → A0 q) (hf : ∀ q, free q → A0 q) (hAX : ∀ q, q < H.size → AX q → A0 q)
    (kx : ∀ (E : String) (ce : Cell) (q9 : Addr) (u : SX) (t : State) (H1 : Heap) (locs1 : List Loc), t.heap = H1 → s.vm.Alike t.vm → px u → BX E u t → H.size ≤ H1.size → (∀ q : Nat, q < H.size → ¬ AX q → H1[q]? = H[q]?) → va_S A0 H0 H1 locs1 → H1[q9]? = some ce → ce.vm = .none → s.vm.findClass E = some ce.cls → vx_W p l e R s m args below meth c H1 locs1 (cells + mc) (slots + ms) Q (F0 m pc ls rest) q9)
    (kk : ∀ (r : Int64) (u : S) (t : State) (H1 : Heap) (locs1 : List Loc), t.heap = H1 → s.vm.Alike t.vm → post r u → B u t → H.size ≤ H1.size → (∀ q : Nat, q < H.size → ¬ A1 q → H1[q]? = H[q]?) → va_S A0 H0 H1 locs1 → W p l e R s m args below meth c H1 locs1 (cells + mc) (slots + ms) Q (F0 m (pc + 3) ls (.long r :: rest))) : W p l e R s m args below meth c H locs cells slots Q (F0 m pc ls st0) := by
  intro T hT X
  rcases hr T hT X with ⟨v, st₀, t, T', L, h0, X', hL, e1, e2, ⟨⟨r, u, hv, hp, hb⟩, hF⟩, st⟩ | ⟨q, st₀, t, T', L, E, ce, h0, X', hL, e1, e2, ⟨u, hp, hb, hF⟩, hce, hcv, hcl, st⟩
  · cases hv
    obtain ⟨k1, k2, k3⟩ := vx_keep h0 e1 hS hA hf hL hF
    obtain ⟨t2, a1, b1⟩ := kk r u t T'.heap (locs ++ L) e1.symm (by rw [← e2]; exact X'.warmed.alike) hp hb k1 k2 k3 T' rfl X'
    exact ⟨t2, st t2 a1, b1⟩
  · obtain ⟨k1, k2, k3⟩ := vx_keep h0 e1 hS hAX hf hL hF
    obtain ⟨t2, a1, b1⟩ := kx E ce q u t T'.heap (locs ++ L) e1.symm (by rw [← e2]; exact X'.warmed.alike) hp hb k1 k2 k3 (by rw [e1]; exact hce) hcv hcl T' rfl X'
    exact ⟨t2, st.trans a1, b1⟩
theorem vx_callf {S SX : Type} {post : UInt32 → S → Prop} {px : SX → Prop} {B : S → State → Prop} {BX : String → SX → State → Prop} {AX : Nat → Prop} (hr : vx_Run p l e R s m args below meth c H locs cells slots mc ms (F0 m pc ls st0) rest (va_Qf post B A1 a) (vx_X px BX AX) free) (hS : va_S A0 H0 H locs) (hA : ∀ q, q < H.size → A1 q → A0 q) (hf : ∀ q, free q → A0 q) (hAX : ∀ q, q < H.size → AX q → A0 q)
    (kx : ∀ (E : String) (ce : Cell) (q9 : Addr) (u : SX) (t : State) (H1 : Heap) (locs1 : List Loc), t.heap = H1 → s.vm.Alike t.vm → px u → BX E u t → H.size ≤ H1.size → (∀ q : Nat, q < H.size → ¬ AX q → H1[q]? = H[q]?) → va_S A0 H0 H1 locs1 → H1[q9]? = some ce → ce.vm = .none → s.vm.findClass E = some ce.cls → vx_W p l e R s m args below meth c H1 locs1 (cells + mc) (slots + ms) Q (F0 m pc ls rest) q9)
    (kk : ∀ (r : UInt32) (u : S) (t : State) (H1 : Heap) (locs1 : List Loc), t.heap = H1 → s.vm.Alike t.vm → post r u → B u t → H.size ≤ H1.size → (∀ q : Nat, q < H.size → ¬ A1 q → H1[q]? = H[q]?) → va_S A0 H0 H1 locs1 → W p l e R s m args below meth c H1 locs1 (cells + mc) (slots + ms) Q (F0 m (pc + 3) ls (.float r :: rest))) : W p l e R s m args below meth c H locs cells slots Q (F0 m pc ls st0) := by
  intro T hT X
  rcases hr T hT X with ⟨v, st₀, t, T', L, h0, X', hL, e1, e2, ⟨⟨r, u, hv, hp, hb⟩, hF⟩, st⟩ | ⟨q, st₀, t, T', L, E, ce, h0, X', hL, e1, e2, ⟨u, hp, hb, hF⟩, hce, hcv, hcl, st⟩
  · cases hv
    obtain ⟨k1, k2, k3⟩ := vx_keep h0 e1 hS hA hf hL hF
    obtain ⟨t2, a1, b1⟩ := kk r u t T'.heap (locs ++ L) e1.symm (by rw [← e2]; exact X'.warmed.alike) hp hb k1 k2 k3 T' rfl X'
    exact ⟨t2, st t2 a1, b1⟩
  · obtain ⟨k1, k2, k3⟩ := vx_keep h0 e1 hS hAX hf hL hF
    obtain ⟨t2, a1, b1⟩ := kx E ce q u t T'.heap (locs ++ L) e1.symm (by rw [← e2]; exact X'.warmed.alike) hp hb k1 k2 k3 (by rw [e1]; exact hce) hcv hcl T' rfl X'
    exact ⟨t2, st.trans a1, b1⟩
theorem vx_calld {S SX : Type} {post : UInt64 → S → Prop} {px : SX → Prop} {B : S → State → Prop} {BX : String → SX → State → Prop} {AX : Nat → Prop} (hr : vx_Run p l e R s m args below meth c H locs cells slots mc ms (F0 m pc ls st0) rest (va_Qd post B A1 a) (vx_X px BX AX) free) (hS : va_S A0 H0 H locs) (hA : ∀ q, q < H.size → A1 q → A0 q) (hf : ∀ q, free q → A0 q) (hAX : ∀ q, q < H.size → AX q → A0 q)
    (kx : ∀ (E : String) (ce : Cell) (q9 : Addr) (u : SX) (t : State) (H1 : Heap) (locs1 : List Loc), t.heap = H1 → s.vm.Alike t.vm → px u → BX E u t → H.size ≤ H1.size → (∀ q : Nat, q < H.size → ¬ AX q → H1[q]? = H[q]?) → va_S A0 H0 H1 locs1 → H1[q9]? = some ce → ce.vm = .none → s.vm.findClass E = some ce.cls → vx_W p l e R s m args below meth c H1 locs1 (cells + mc) (slots + ms) Q (F0 m pc ls rest) q9)
    (kk : ∀ (r : UInt64) (u : S) (t : State) (H1 : Heap) (locs1 : List Loc), t.heap = H1 → s.vm.Alike t.vm → post r u → B u t → H.size ≤ H1.size → (∀ q : Nat, q < H.size → ¬ A1 q → H1[q]? = H[q]?) → va_S A0 H0 H1 locs1 → W p l e R s m args below meth c H1 locs1 (cells + mc) (slots + ms) Q (F0 m (pc + 3) ls (.double r :: rest))) : W p l e R s m args below meth c H locs cells slots Q (F0 m pc ls st0) := by
  intro T hT X
  rcases hr T hT X with ⟨v, st₀, t, T', L, h0, X', hL, e1, e2, ⟨⟨r, u, hv, hp, hb⟩, hF⟩, st⟩ | ⟨q, st₀, t, T', L, E, ce, h0, X', hL, e1, e2, ⟨u, hp, hb, hF⟩, hce, hcv, hcl, st⟩
  · cases hv
    obtain ⟨k1, k2, k3⟩ := vx_keep h0 e1 hS hA hf hL hF
    obtain ⟨t2, a1, b1⟩ := kk r u t T'.heap (locs ++ L) e1.symm (by rw [← e2]; exact X'.warmed.alike) hp hb k1 k2 k3 T' rfl X'
    exact ⟨t2, st t2 a1, b1⟩
  · obtain ⟨k1, k2, k3⟩ := vx_keep h0 e1 hS hAX hf hL hF
    obtain ⟨t2, a1, b1⟩ := kx E ce q u t T'.heap (locs ++ L) e1.symm (by rw [← e2]; exact X'.warmed.alike) hp hb k1 k2 k3 (by rw [e1]; exact hce) hcv hcl T' rfl X'
    exact ⟨t2, st.trans a1, b1⟩
theorem vx_callv {S SX : Type} {post : S → Prop} {px : SX → Prop} {B : S → State → Prop} {BX : String → SX → State → Prop} {AX : Nat → Prop} (hr : vx_Run p l e R s m args below meth c H locs cells slots mc ms (F0 m pc ls st0) rest (va_Qv post B A1 a) (vx_X px BX AX) free) (hS : va_S A0 H0 H locs) (hA : ∀ q, q < H.size → A1 q → A0 q) (hf : ∀ q, free q → A0 q) (hAX : ∀ q, q < H.size → AX q → A0 q)
    (kx : ∀ (E : String) (ce : Cell) (q9 : Addr) (u : SX) (t : State) (H1 : Heap) (locs1 : List Loc), t.heap = H1 → s.vm.Alike t.vm → px u → BX E u t → H.size ≤ H1.size → (∀ q : Nat, q < H.size → ¬ AX q → H1[q]? = H[q]?) → va_S A0 H0 H1 locs1 → H1[q9]? = some ce → ce.vm = .none → s.vm.findClass E = some ce.cls → vx_W p l e R s m args below meth c H1 locs1 (cells + mc) (slots + ms) Q (F0 m pc ls rest) q9)
    (kk : ∀ (u : S) (t : State) (H1 : Heap) (locs1 : List Loc), t.heap = H1 → s.vm.Alike t.vm → post u → B u t → H.size ≤ H1.size → (∀ q : Nat, q < H.size → ¬ A1 q → H1[q]? = H[q]?) → va_S A0 H0 H1 locs1 → W p l e R s m args below meth c H1 locs1 (cells + mc) (slots + ms) Q (F0 m (pc + 3) ls (rest))) : W p l e R s m args below meth c H locs cells slots Q (F0 m pc ls st0) := by
  intro T hT X
  rcases hr T hT X with ⟨v, st₀, t, T', L, h0, X', hL, e1, e2, ⟨⟨u, hv, hp, hb⟩, hF⟩, st⟩ | ⟨q, st₀, t, T', L, E, ce, h0, X', hL, e1, e2, ⟨u, hp, hb, hF⟩, hce, hcv, hcl, st⟩
  · cases hv
    obtain ⟨k1, k2, k3⟩ := vx_keep h0 e1 hS hA hf hL hF
    obtain ⟨t2, a1, b1⟩ := kk u t T'.heap (locs ++ L) e1.symm (by rw [← e2]; exact X'.warmed.alike) hp hb k1 k2 k3 T' rfl X'
    exact ⟨t2, st t2 a1, b1⟩
  · obtain ⟨k1, k2, k3⟩ := vx_keep h0 e1 hS hAX hf hL hF
    obtain ⟨t2, a1, b1⟩ := kx E ce q u t T'.heap (locs ++ L) e1.symm (by rw [← e2]; exact X'.warmed.alike) hp hb k1 k2 k3 (by rw [e1]; exact hce) hcv hcl T' rfl X'
    exact ⟨t2, st.trans a1, b1⟩
/-- caught by the row x of this method's table; the rows ahead don't take it -/
theorem vx_catch {own name : String} {E : String} {ce : Cell} {q : Addr} (hown : s.vm.findClass own = some m.cls) (pre : List ExceptionTableEntry) (x : ExceptionTableEntry) (suf : List ExceptionTableEntry) (hsplit : c.exceptionTable.toList = pre ++ x :: suf)
    (hpass : ∀ z ∈ pre, covers z pc = false ∨ (z.catchType ≠ 0 ∧ ∃ nm : String, (Cond.classLink own z.catchType nm).before args s = true ∧ va_Nc E nm s)) (hx : covers x pc = true) (h0 : x.catchType ≠ 0)
    (hlink : (Cond.classLink own x.catchType name).before args s = true) (hcast : (Cond.castable E name).before args s = true) (hcell : H[q]? = some ce) (hv : ce.vm = .none) (hcl : s.vm.findClass E = some ce.cls)
    (kk : W p l e R s m args below meth c H locs cells slots Q (F0 m x.handlerPc ls [.ref q])) : vx_W p l e R s m args below meth c H locs cells slots Q (F0 m pc ls rest) q := by
  intro T hT X
  have hpl : e.platform.magicAccessors = ({} : Platform).magicAccessors := by rw [X.admits.platform]
  obtain ⟨c3, c4, hc3, hc4, hasg⟩ := Cond.castable_spec hcast
  cases Option.some.inj (hc3.symm.trans hcl)
  obtain ⟨c5, hc5, hcl5⟩ := Cond.classLink_spec hown hlink e.platform hpl
  cases Option.some.inj (hc4.symm.trans hc5)
  obtain ⟨vm', X', st⟩ := X.thenCaughtThrough q (g := F0 m pc ls rest) rfl (Steps.refl _) (by rw [hT]; exact hcell) (by rw [hv]; rfl) (by obtain ⟨k9, h9, -⟩ := Vm.findClass_spec hcl; exact ⟨k9, h9⟩) pre x suf hsplit
    (fun z hz => by
      rcases hpass z hz with h | ⟨hz0, nm, hl1, hn1⟩
      · exact Or.inl h
      · obtain ⟨c6, hc6, hcl6⟩ := Cond.classLink_spec hown hl1 e.platform hpl
        obtain ⟨a8, b8, h1, h2, h3⟩ := hn1
        cases Option.some.inj (h1.symm.trans hcl)
        cases Option.some.inj (h2.symm.trans hc6)
        exact Or.inr ⟨hz0, _, hcl6, h3⟩) hx (Or.inr ⟨h0, c4, hcl5, hasg⟩)
  obtain ⟨t, a1, b1⟩ := kk (T.setVm vm') hT X'
  exact ⟨t, st.trans a1, b1⟩
end Rows
section Ends
variable {p : Program} {l : Launch} {e : Env} {R : Room} {s : State} {m : MethodId} {args : Array Value} {below : List Frame} {meth : Method} {c : Code} {H : Heap} {locs : List Loc} {cells slots : Nat} {Q : State → Prop}
variable {mc ms : Nat} {free : Addr → Prop} {A0 A1 : Nat → Prop} {H0 : Heap} {a : Array Value} {ls : Array Slot} {st0 rest : List Value}
variable {Qc : Array Value → State → Outcome → State → Prop} {XC : String → State → State → Prop}
/-- what a body that may throw owes at its end -/
def vx_MQ (below : List Frame) (Qc : Array Value → State → Outcome → State → Prop) (XC : String → State → State → Prop) (a : Array Value) (s : State) (mc ms : Nat) (free : Addr → Prop) : State → Prop := fun t =>
  ∃ o, t.status = .running ∧ Ended t below o ∧ vx_Q Qc XC mc ms free a s o t
theorem vx_ret {g : JFrame} {mc ms : Nat} (k : W p l e R s m args below meth c H locs cells slots (MQ below Qc args s mc ms free) g) : W p l e R s m args below meth c H locs cells slots (vx_MQ below Qc XC args s mc ms free) g := by
  intro T hT X
  obtain ⟨t, a1, o, b1, b2, b3, b4⟩ := k T hT X
  exact ⟨t, a1, o, b1, b2, Or.inl ⟨b3, b4⟩⟩
/-- not caught here: it goes on to the caller -/
theorem vx_widen {g : JFrame} {q : Addr} {k n : Nat} (h1 : cells ≤ k) (h2 : slots ≤ n) (kk : vx_W p l e R s m args below meth c H locs k n Q g q) : vx_W p l e R s m args below meth c H locs cells slots Q g q := fun T hT X => kk T hT (stand_widen X h1 h2)
theorem vx_out {pc : Nat} {E : String} {ce : Cell} {q : Addr} {mc ms : Nat} (hout : ∀ x ∈ c.exceptionTable.toList, covers x pc = false) (hlocks : meth.locks = false) (hcell : H[q]? = some ce) (hv : ce.vm = .none) (hcl : s.vm.findClass E = some ce.cls)
    (hx : ∀ t : State, t.heap = H → s.vm.Alike t.vm → XC E s t) (hf : ∀ z ∈ locs, free z.base) (hc : cells ≤ mc) (hs : slots ≤ ms) :
    vx_W p l e R s m args below meth c H locs cells slots (vx_MQ below Qc XC args s mc ms free) (F0 m pc ls rest) q := by
  intro T hT X
  obtain ⟨st1, hrun, hend, hW, hsm⟩ := X.leaveThrown q (g := F0 m pc ls rest) rfl rfl rfl hout hlocks
  have hcell9 : (T.setFrames (.throwing q :: below)).heap[q]? = some ce := by
    show T.heap[q]? = some ce
    rw [hT]; exact hcell
  exact ⟨_, st1, .threw q, hrun, hend, Or.inr ⟨q, rfl, E, ce, locs, hx _ hT hW.alike, hcell9, hv, hcl, hW, hsm.mono hc hs, hf⟩⟩
theorem vx_frame {U : State} {k n : Nat} (h : s.sameButNew ({ U with vm := s.vm } : State) locs k n) : s.heap.size ≤ U.heap.size ∧ ∀ q : Nat, q < s.heap.size → (∀ z ∈ locs, z.base ≠ q) → U.heap[q]? = s.heap[q]? := by
  obtain ⟨-, h2, -, -, -, h6⟩ := h
  refine ⟨h2, fun q hq hz => ?_⟩
  obtain ⟨c9, e1, e2, e3, e4⟩ := h6 q _ (Array.getElem?_eq_getElem hq)
  have hs : c9.slots = (s.heap[q]).slots := Array.ext_getElem? fun i => e4 i fun hm => hz _ hm rfl
  have h9 : c9 = s.heap[q] := by
    rw [hs] at e2
    exact e2
  have e5 : U.heap[q]? = some c9 := e1
  rw [e5, h9, Array.getElem?_eq_getElem hq]
/-- the words of a throw but the four that speak of the heap -/
def vx_no (w : Cond) : Bool := decide (w ≠ .isRef (.static Bundle.tN "UNASSIGNED_STACK" Bundle.steD)) && decide (w ≠ .isRef (.static Bundle.tN "SUPPRESSED_SENTINEL" Bundle.listD)) && decide (w ≠ .laysStatic Bundle.tN "UNASSIGNED_STACK" Bundle.steD) && decide (w ≠ .laysStatic Bundle.tN "SUPPRESSED_SENTINEL" Bundle.listD)
def vx_at0 (own : String) (ic : Nat) (X : String) (names : List String) : List Cond := (Bundle.ownAtoms0 own ic X names).filter vx_no
def vx_atS (own : String) (ic : Nat) (X : String) (names : List String) : List Cond := (Bundle.ownAtoms own ic X names).filter vx_no
/-- a word that the tables alone decide, or a good one -/
def vx_ot (w : Cond) : Bool := w.onTables || goodWord w
theorem vx_ot_at {args a' : Array Value} {s U : State} {w : Cond} (hW : s.WarmedH U.vm) (hvm : s.vm = U.vm) (hg : vx_ot w = true) (h : w.before args s = true) : w.before a' U = true := by
  simp only [vx_ot, Bool.or_eq_true] at hg
  rcases hg with hg | hg
  · exact va_tabs hg hvm h
  · exact word_at hW (good_of_word hg) h
/-- a list's words: the good ones out of the method's own list, the others by premises of their own -/
theorem vx_hat {args : Array Value} {s : State} {L B : List Cond} (h1 : ∀ w ∈ L.filter goodWord, w.before args s = true) (h2 : ∀ w ∈ L.filter (fun w => !goodWord w), w ∈ B) (h3 : ∀ w ∈ B, w.before args s = true) : ∀ w ∈ L, w.before args s = true := by
  intro w hw
  by_cases g : goodWord w = true
  · exact h1 w (List.mem_filter.mpr ⟨hw, g⟩)
  · refine h3 w (h2 w (List.mem_filter.mpr ⟨hw, ?_⟩))
    show (!goodWord w) = true
    cases hgw : goodWord w
    · rfl
    · exact absurd hgw g
theorem vx_c {args : Array Value} {s : State} {w : Cond} {B : List Cond} (h : w.before args s = true) (t : ∀ w ∈ B, w.before args s = true) : ∀ w' ∈ w :: B, w'.before args s = true := fun w' h' => (List.mem_cons.mp h').elim (fun e => by rw [e]; exact h) (t w')
theorem vx_n {args : Array Value} {s : State} : ∀ w ∈ ([] : List Cond), w.before args s = true := fun _ h => nomatch h
theorem vx_own {args : Array Value} {s : State} {L : List Cond} (h1 : ∀ w ∈ L.filter vx_no, w.before args s = true)
    (hU : (Cond.isRef (.static Bundle.tN "UNASSIGNED_STACK" Bundle.steD)).before args s = true) (hN : (Cond.isRef (.static Bundle.tN "SUPPRESSED_SENTINEL" Bundle.listD)).before args s = true)
    (lU : (Cond.laysStatic Bundle.tN "UNASSIGNED_STACK" Bundle.steD).before args s = true) (lN : (Cond.laysStatic Bundle.tN "SUPPRESSED_SENTINEL" Bundle.listD).before args s = true) : ∀ w ∈ L, w.before args s = true := by
  intro w hw
  by_cases e1 : w = .isRef (.static Bundle.tN "UNASSIGNED_STACK" Bundle.steD)
  · rw [e1]; exact hU
  · by_cases e2 : w = .isRef (.static Bundle.tN "SUPPRESSED_SENTINEL" Bundle.listD)
    · rw [e2]; exact hN
    · by_cases e3 : w = .laysStatic Bundle.tN "UNASSIGNED_STACK" Bundle.steD
      · rw [e3]; exact lU
      · by_cases e4 : w = .laysStatic Bundle.tN "SUPPRESSED_SENTINEL" Bundle.listD
        · rw [e4]; exact lN
        · exact h1 w (List.mem_filter.mpr ⟨hw, by unfold vx_no; rw [decide_eq_true e1, decide_eq_true e2, decide_eq_true e3, decide_eq_true e4]; rfl⟩)
/-- where a static field lies, its class's statics cell in H -/
def vx_L (C n d : String) (A : Nat → Prop) (U : State) (H : Heap) : Prop := ∃ (c : ClassId) (k : Class) (i : Nat) (f : Field) (a : Nat) (cell : Cell), U.vm.findClass C = some c ∧ U.fieldFound? C n d = some (c, k, i, f) ∧ f.isStatic = true ∧ k.statics = some a ∧ H[a]? = some cell ∧ cell.vm.isStatics = true ∧ cell.cls = c ∧ f.slot < cell.slots.size ∧ k.staticTypes[f.slot]? = some f.type ∧ ¬ A a
theorem vx_L.moved {C n d : String} {A : Nat → Prop} {u U : State} {H : Heap} (hvm : u.vm.Alike U.vm) (h : vx_L C n d A u H) : vx_L C n d A U H := by
  obtain ⟨c, k, i, f, a, cell, h1, h2, h3, h4, h5, h6, h7, h8, h9, h10⟩ := h
  obtain ⟨k', hi', he⟩ := State.fieldFound?_setVm hvm h2
  exact ⟨c, k', i, f, a, cell, by rw [hvm.findClass]; exact h1, hi', h3, by rw [he]; exact h4, h5, h6, h7, h8, by rw [he]; exact h9, h10⟩
theorem vx_L.kept {C n d : String} {A : Nat → Prop} {U : State} {H H1 : Heap} (h : vx_L C n d A U H) (hq : ∀ a : Nat, a < H.size → ¬ A a → H1[a]? = H[a]?) : vx_L C n d A U H1 := by
  obtain ⟨c, k, i, f, a, cell, h1, h2, h3, h4, h5, h6, h7, h8, h9, h10⟩ := h
  exact ⟨c, k, i, f, a, cell, h1, h2, h3, h4, by rw [hq a (Array.getElem?_eq_some_iff.mp h5).1 h10]; exact h5, h6, h7, h8, h9, h10⟩
theorem vx_L.narrow {C n d : String} {A B : Nat → Prop} {U : State} {H : Heap} (h : vx_L C n d A U H) (hAB : ∀ q, B q → A q) : vx_L C n d B U H := by
  obtain ⟨c, k, i, f, a, cell, h1, h2, h3, h4, h5, h6, h7, h8, h9, h10⟩ := h
  exact ⟨c, k, i, f, a, cell, h1, h2, h3, h4, h5, h6, h7, h8, h9, fun z => h10 (hAB _ z)⟩
theorem vx_L.word {C n d : String} {A : Nat → Prop} {s : State} {args : Array Value} (h : vx_L C n d A s s.heap) : (Cond.laysStatic C n d).before args s = true := by
  obtain ⟨c, k, i, f, a, cell, h1, h2, h3, h4, h5, h6, h7, h8, h9, -⟩ := h
  show (Cond.laysStatic C n d).holds args s none s [] = true
  exact Cond.laysStatic_of h1 h2 h3 h4 h5 h6 h7 h8 h9
/-- .. and what it holds: null or some reference -/
def vx_Zq (C n d : String) (A : Nat → Prop) (U : State) (H : Heap) : Prop := va_Zq C n d A U H ∧ vx_L C n d A U H
theorem vx_Zq.moved {C n d : String} {A : Nat → Prop} {u U : State} {H : Heap} (hvm : u.vm.Alike U.vm) (h : vx_Zq C n d A u H) : vx_Zq C n d A U H := ⟨va_Zq.moved hvm h.1, vx_L.moved hvm h.2⟩
theorem vx_Zq.kept {C n d : String} {A : Nat → Prop} {U : State} {H H1 : Heap} (h : vx_Zq C n d A U H) (hq : ∀ a : Nat, a < H.size → ¬ A a → H1[a]? = H[a]?) : vx_Zq C n d A U H1 := ⟨va_Zq.kept h.1 hq, vx_L.kept h.2 hq⟩
theorem vx_Zq.narrow {C n d : String} {A B : Nat → Prop} {U : State} {H : Heap} (h : vx_Zq C n d A U H) (hAB : ∀ q, B q → A q) : vx_Zq C n d B U H := ⟨va_Zq.narrow h.1 hAB, vx_L.narrow h.2 hAB⟩
theorem vx_Zqof {args : Array Value} {s : State} {C n d : String} {A : Nat → Prop} (hl : (Cond.laysStatic C n d).before args s = true) (hini : (Cond.initialized C).before args s = true) (h : (Cond.isRef (.static C n d)).before args s = true) (hA : ∀ a : Nat, a < s.heap.size → ¬ A a) : vx_Zq C n d A s s.heap := by
  refine ⟨va_Zqof hl hini h hA, ?_⟩
  obtain ⟨c, k, i, f, a, cell, h1, h2, h3, h4, h5, h6, h7, h8, h9⟩ := Cond.laysStatic_spec hl
  exact ⟨c, k, i, f, a, cell, h1, h2, h3, h4, h5, h6, h7, h8, h9, hA a (Array.getElem?_eq_some_iff.mp h5).1⟩
theorem vx_isRef {C n d : String} {v : Value} {A : Nat → Prop} {s : State} {args : Array Value} (h : va_Z C n d v A s s.heap) (hv : v.isRef = true) : (Cond.isRef (.static C n d)).before args s = true := by
  obtain ⟨cf, kf, fi, f, a, cell, h1, h2, h3, h4, h5, h6, h7, -⟩ := h
  have he : (Term.static C n d).eval args s none [] s = some v := by
    simp [Term.eval, State.fieldNamed?, h1, h2, h4, h5, h6, h7]
  simp only [Cond.before, Cond.holds, Cond.value, he]
  cases v <;> simp_all [Value.isRef]
theorem vx_isRefq {C n d : String} {A : Nat → Prop} {s : State} {args : Array Value} (h : va_Zq C n d A s s.heap) : (Cond.isRef (.static C n d)).before args s = true := by
  rcases h with h | ⟨t, h⟩
  · exact vx_isRef h rfl
  · exact vx_isRef h rfl
/-- the same frame, seen from here: as if the method were called anew in this heap -/
theorem vx_rebase {T : State} (X : Stand p l e R s m args below meth c T locs cells slots) {R' : Room} (hf : R'.frames ≤ R.frames) (hl : R'.locals ≤ R.locals) (hc : cells + R'.cells ≤ R.cells) (hs : slots + R'.slots ≤ R.slots) :
    Stand p l e R' ((T.setVm s.vm).setFrames (.invoking m args :: below)) m args below meth c T [] 0 0 := by
  have htop : (T.setVm s.vm).topJava?.isSome := X.here.top
  have hF : ((T.setVm s.vm).setFrames (.invoking m args :: below)).frames = .invoking m args :: below := State.frames_setFrames _ (State.cur_lt_of_top htop)
  obtain ⟨g₀, hg0⟩ := Option.isSome_iff_exists.mp htop
  obtain ⟨r, hr⟩ := State.topJava?_eq_some.mp hg0
  have hl9 : e.platform.stackLimits (T.setVm s.vm).me = e.platform.stackLimits s.me := X.limits
  have hb9 : (T.setVm s.vm).me.stackBytes = s.me.stackBytes := X.bytes
  refine ⟨X.admits, X.cas, X.clock, hF, ?_, X.hears, X.method, X.code, X.here, X.tail, X.warmed, ?_, ?_, ?_⟩
  · have h := X.room
    have hU : ((T.setVm s.vm).setFrames (.invoking m args :: below)).localsInUse = s.localsInUse := by
      rw [State.localsInUse_invoking hF (meth := meth) (c := c) X.method X.code, State.localsInUse_invoking X.frames X.method X.code]
    simp only [State.hasRoom, Bool.and_eq_true, decide_eq_true_eq] at h ⊢
    obtain ⟨⟨⟨⟨h1, h2, h3, h4, h5, h6⟩, h7⟩, h8⟩, h9⟩ := h
    rw [X.frames, List.length_cons] at h2 h3
    have q1 := X.heapSize
    have q2 := X.used
    simp only [hF, hU, List.length_cons, State.stackLimits_setFrames, State.stackBytes_setFrames, hl9, hb9]
    refine ⟨⟨⟨⟨by omega, by omega, by omega, by omega, by omega, h6⟩, ?_⟩, ?_⟩, X.book⟩
    · show T.heap.size + R'.cells ≤ e.platform.maxCells
      omega
    · show T.slotsUsed + R'.slots ≤ e.platform.maxSlots
      omega
  · rw [State.stackLimits_setFrames]; rfl
  · rw [State.stackBytes_setFrames]; rfl
  · refine ⟨?_, Nat.le_refl _, Nat.le_refl _, ?_, ?_, fun a c9 h9 => ⟨c9, h9, rfl, rfl, fun _ _ => rfl⟩⟩
    · obtain ⟨t, ht, -⟩ := State.frames_cons hr
      show T.setVm s.vm = { ((T.setVm s.vm).setFrames (.invoking m args :: below)).setFrames (T.setVm s.vm).frames with heap := T.heap, slotsUsed := T.slotsUsed }
      rw [State.setFrames_setFrames, State.setFrames_self ht]
      rfl
    · show T.slotsUsed = T.slotsUsed + ((T.heap.toList.drop T.heap.size).map (·.slots.size)).sum
      rw [List.drop_eq_nil_of_le (Nat.le_of_eq Array.length_toList)]
      rfl
    · show ((T.heap.toList.drop T.heap.size).map (·.slots.size)).sum ≤ 0
      rw [List.drop_eq_nil_of_le (Nat.le_of_eq Array.length_toList)]
      exact Nat.le_refl _
/-- 'throw new E()': new; dup; invokespecial; athrow -/
theorem vx_throw0 {cc : ByteArray} {pc : Nat} (hexec : p.tables.exec = Jvm.exec) (hb : c.code = cc) (hl : l.stackTraces = false) {own cls : String} {names : List String} {ik ic mc ms : Nat} {A : Nat → Prop}
    (hown : s.vm.findClass own = some m.cls) (hcls : Bundle.fit cls = true) (hnames : ∀ n ∈ names, Bundle.fit n = true)
    (hk : (Cond.classLink own ik cls).before args s = true) (hini : (Cond.initialized cls).before args s = true) (hat : ∀ w ∈ vx_at0 own ic cls names, w.before args s = true)
    (hgood : ∀ w ∈ Cond.classLink own ik cls :: Cond.initialized cls :: vx_at0 own ic cls names, vx_ot w = true)
    (hU : vx_Zq Bundle.tN "UNASSIGNED_STACK" Bundle.steD A s s.heap) (hN : vx_Zq Bundle.tN "SUPPRESSED_SENTINEL" Bundle.listD A s s.heap) (hS : va_S A s.heap H locs) (hsize : ls.size = c.maxLocals)
    (d0 : decode cc pc = .ok (.new ik, 3)) (d3 : decode cc (pc + 3) = .ok (.dup, 1)) (d4 : decode cc (pc + 4) = .ok (.invokespecial ic, 3)) (d7 : decode cc (pc + 7) = .ok (.athrow, 1))
    (hout : ∀ x ∈ c.exceptionTable.toList, covers x (pc + 7) = false)
    (hRframes : names.length + 3 < R.frames) (hRlocals : (rest.map fun v => v.category).sum + (13 * (names.length + 1) + 42) ≤ R.locals) (hRcells : cells + 1 ≤ R.cells) (hRslots : slots + 6 ≤ R.slots) (hlocks : meth.locks = false)
    (hx : ∀ t : State, s.vm.Alike t.vm → H.size ≤ t.heap.size → (∀ q : Nat, q < H.size → t.heap[q]? = H[q]?) → XC cls s t)
    (hf : ∀ z ∈ locs, free z.base) (hc : cells + 1 ≤ mc) (hs : slots + 6 ≤ ms) :
    W p l e R s m args below meth c H locs cells slots (vx_MQ below Qc XC args s mc ms free) (F0 m pc ls rest) := by
  intro T hT X
  have htr : e.platform.stackTraces = false := (show e.platform.stackTraces = l.stackTraces by rw [X.admits.platform]).trans hl
  have Y := vx_rebase X (R' := { frames := R.frames, locals := R.locals, cells := 1, slots := 6 }) (Nat.le_refl _) (Nat.le_refl _) hRcells hRslots
  obtain ⟨s', hA⟩ : ∃ z, z = (T.setVm s.vm).setFrames (.invoking m args :: below) := ⟨_, rfl⟩
  rw [← hA] at Y
  have hvm : s'.vm = s.vm := by rw [hA]; rfl
  have hhp : s'.heap = H := by rw [hA]; exact hT
  have hW0 : s.WarmedH s'.vm := by rw [hvm]; exact State.WarmedH.refl s
  have hat' : ∀ w ∈ vx_at0 own ic cls names, w.before args s' = true := fun w hw => vx_ot_at hW0 hvm.symm (hgood w (List.mem_cons_of_mem _ (List.mem_cons_of_mem _ hw))) (hat w hw)
  have hk' : (Cond.classLink own ik cls).before args s' = true := vx_ot_at hW0 hvm.symm (hgood _ List.mem_cons_self) hk
  have hini' : (Cond.initialized cls).before args s' = true := vx_ot_at hW0 hvm.symm (hgood _ (List.mem_cons_of_mem _ List.mem_cons_self)) hini
  have hU' : vx_Zq Bundle.tN "UNASSIGNED_STACK" Bundle.steD A s' s'.heap := by rw [hhp]; exact vx_Zq.moved hW0.alike (hU.kept hS.2.1)
  have hN' : vx_Zq Bundle.tN "SUPPRESSED_SENTINEL" Bundle.listD A s' s'.heap := by rw [hhp]; exact vx_Zq.moved hW0.alike (hN.kept hS.2.1)
  have h : ∀ w ∈ Bundle.ownAtoms0 own ic cls names, w.before args s' = true := vx_own hat' (vx_isRefq hU'.1) (vx_isRefq hN'.1) hU'.2.word hN'.2.word
  have hown' : s'.vm.findClass own = some m.cls := by rw [hvm]; exact hown
  have hins : (Cond.instantiable cls 6).before args s' = true := h _ (by simp [Bundle.ownAtoms0])
  obtain ⟨vm₁, cX, kX, hfX, hkX, -, -, X₁, st1⟩ := Y.newCold hexec (own := own) (C := cls) (index := ik) (n := 6) hown' hk' hins hini'
    (g := F0 m pc ls rest) rfl (by rw [hb]; exact d0) (Nat.le_refl _) (Nat.le_refl _)
  generalize hT1 : (T.setVm vm₁).pushCell { cls := cX, slots := kX.instanceTypes.map defaultValue, vm := .none } = T1 at X₁ st1
  have hcat : (Value.ref T.heap.size).category = 1 := rfl
  have hcellA : T1.heap[T.heap.size]? = some (freshCell cX kX) := by rw [← hT1]; exact State.heap_pushCell_size _ _
  have d3' : decode c.code (pc + 3) = .ok (.dup, 1) := by rw [hb]; exact d3
  obtain ⟨U, hsteps, hrun, hend, hW, hsame, ce, hce, hO⟩ := X₁.ctorThrow0 hexec htr (own := own) (cls := cls) (names := names) (ic := ic) hown' hcls hnames h (fun x hx => nomatch hx) hfX hkX hcellA (by rw [hhp, hT]; exact Nat.le_refl _)
    (g := { method := m, pc := pc + 4, locals := ls, stack := .ref T.heap.size :: .ref T.heap.size :: rest, locked := none }) rfl hsize rfl rfl (rest := rest) rfl
    (by rw [hb]; exact d4) (by rw [hb]; exact d7) hout hRframes (by simp only [List.map_cons, List.sum_cons, hcat]; omega) hlocks
  obtain ⟨f1, f2⟩ := vx_frame hsame
  rw [hhp] at f1 f2
  have hWs : s.WarmedH U.vm := State.WarmedH.trans hW0 hW
  have hcl : s.vm.findClass cls = some ce.cls := by
    have h9 := hO.cls
    rw [hvm] at h9
    exact h9
  have hall : s.sameButNew ({ U with vm := s.vm } : State) locs mc ms := by
    subst hA
    obtain ⟨e1, e2⟩ := hsame
    rw [State.setFrames_setFrames] at e1
    have h2 : (T.setVm s.vm).sameButNew ({ U with vm := s.vm } : State) [] (0 + 1) (0 + 6) := ⟨e1, e2⟩
    have h3 := X.same.trans h2
    rw [List.append_nil] at h3
    exact h3.mono hc hs
  refine ⟨U, ?_, .threw T.heap.size, hrun, hend, Or.inr ⟨T.heap.size, rfl, cls, ce, locs, hx U hWs.alike f1 (fun q hq => f2 q hq (fun z hz => nomatch hz)), hce, hO.vm, hcl, hWs, hall, hf⟩⟩
  refine st1 _ ?_
  show Steps p.tables e below (T1.setTop { method := m, pc := pc + 3, locals := ls, stack := .ref T.heap.size :: rest, locked := none }) _
  jvm_step X₁.here [X₁.here.top, hexec, d3', Value.category]
  exact hsteps
/-- 'throw new E("text")': new; dup; ldc; invokespecial; athrow -/
theorem vx_throwS {cc : ByteArray} {pc : Nat} (hexec : p.tables.exec = Jvm.exec) (hb : c.code = cc) (hl : l.stackTraces = false) {own cls text : String} {names : List String} {ik is ic mc ms sa : Nat} {A : Nat → Prop}
    (hown : s.vm.findClass own = some m.cls) (hcls : Bundle.fit cls = true) (hnames : ∀ n ∈ names, Bundle.fit n = true)
    (hk : (Cond.classLink own ik cls).before args s = true) (hini : (Cond.initialized cls).before args s = true) (hstr : vk_R own is text sa s) (hat : ∀ w ∈ vx_atS own ic cls names, w.before args s = true)
    (hgood : ∀ w ∈ Cond.classLink own ik cls :: Cond.initialized cls :: vx_atS own ic cls names, vx_ot w = true)
    (hU : vx_Zq Bundle.tN "UNASSIGNED_STACK" Bundle.steD A s s.heap) (hN : vx_Zq Bundle.tN "SUPPRESSED_SENTINEL" Bundle.listD A s s.heap) (hS : va_S A s.heap H locs) (hsize : ls.size = c.maxLocals)
    (d0 : decode cc pc = .ok (.new ik, 3)) (d3 : decode cc (pc + 3) = .ok (.dup, 1)) (d4 : decode cc (pc + 4) = .ok (.ldc is, 2)) (d6 : decode cc (pc + 6) = .ok (.invokespecial ic, 3)) (d9 : decode cc (pc + 9) = .ok (.athrow, 1))
    (hout : ∀ x ∈ c.exceptionTable.toList, covers x (pc + 9) = false)
    (hRframes : names.length + 3 < R.frames) (hRlocals : (rest.map fun v => v.category).sum + (13 * (names.length + 1) + 43) ≤ R.locals) (hRcells : cells + 1 ≤ R.cells) (hRslots : slots + 6 ≤ R.slots) (hlocks : meth.locks = false)
    (hx : ∀ t : State, s.vm.Alike t.vm → H.size ≤ t.heap.size → (∀ q : Nat, q < H.size → t.heap[q]? = H[q]?) → XC cls s t)
    (hf : ∀ z ∈ locs, free z.base) (hc : cells + 1 ≤ mc) (hs : slots + 6 ≤ ms) :
    W p l e R s m args below meth c H locs cells slots (vx_MQ below Qc XC args s mc ms free) (F0 m pc ls rest) := by
  intro T hT X
  have htr : e.platform.stackTraces = false := (show e.platform.stackTraces = l.stackTraces by rw [X.admits.platform]).trans hl
  have Y := vx_rebase X (R' := { frames := R.frames, locals := R.locals, cells := 1, slots := 6 }) (Nat.le_refl _) (Nat.le_refl _) hRcells hRslots
  obtain ⟨s', hA⟩ : ∃ z, z = (T.setVm s.vm).setFrames (.invoking m args :: below) := ⟨_, rfl⟩
  rw [← hA] at Y
  have hvm : s'.vm = s.vm := by rw [hA]; rfl
  have hhp : s'.heap = H := by rw [hA]; exact hT
  have hW0 : s.WarmedH s'.vm := by rw [hvm]; exact State.WarmedH.refl s
  have hat' : ∀ w ∈ vx_atS own ic cls names, w.before args s' = true := fun w hw => vx_ot_at hW0 hvm.symm (hgood w (List.mem_cons_of_mem _ (List.mem_cons_of_mem _ hw))) (hat w hw)
  have hk' : (Cond.classLink own ik cls).before args s' = true := vx_ot_at hW0 hvm.symm (hgood _ List.mem_cons_self) hk
  have hini' : (Cond.initialized cls).before args s' = true := vx_ot_at hW0 hvm.symm (hgood _ (List.mem_cons_of_mem _ List.mem_cons_self)) hini
  have hU' : vx_Zq Bundle.tN "UNASSIGNED_STACK" Bundle.steD A s' s'.heap := by rw [hhp]; exact vx_Zq.moved hW0.alike (hU.kept hS.2.1)
  have hN' : vx_Zq Bundle.tN "SUPPRESSED_SENTINEL" Bundle.listD A s' s'.heap := by rw [hhp]; exact vx_Zq.moved hW0.alike (hN.kept hS.2.1)
  have h : ∀ w ∈ Bundle.ownAtoms own ic cls names, w.before args s' = true := vx_own hat' (vx_isRefq hU'.1) (vx_isRefq hN'.1) hU'.2.word hN'.2.word
  have hown' : s'.vm.findClass own = some m.cls := by rw [hvm]; exact hown
  have hins : (Cond.instantiable cls 6).before args s' = true := h _ (by simp [Bundle.ownAtoms])
  obtain ⟨vm₁, cX, kX, hfX, hkX, -, -, X₁, st1⟩ := Y.newCold hexec (own := own) (C := cls) (index := ik) (n := 6) hown' hk' hins hini'
    (g := F0 m pc ls rest) rfl (by rw [hb]; exact d0) (Nat.le_refl _) (Nat.le_refl _)
  generalize hT1 : (T.setVm vm₁).pushCell { cls := cX, slots := kX.instanceTypes.map defaultValue, vm := .none } = T1 at X₁ st1
  have hcat : (Value.ref T.heap.size).category = 1 := rfl
  have hcellA : T1.heap[T.heap.size]? = some (freshCell cX kX) := by rw [← hT1]; exact State.heap_pushCell_size _ _
  have d3' : decode c.code (pc + 3) = .ok (.dup, 1) := by rw [hb]; exact d3
  have d4' : decode c.code (pc + 4) = .ok (.ldc is, 2) := by rw [hb]; exact d4
  have hstr' : vk_R own is text sa s' := vk_R.warm hW0 hstr
  obtain ⟨U, hsteps, hrun, hend, hW, hsame, ce, hce, hO⟩ := X₁.ctorThrowS hexec htr (own := own) (cls := cls) (names := names) (ic := ic) hown' hcls hnames h (fun x hx => nomatch hx) hfX hkX hcellA (by rw [hhp, hT]; exact Nat.le_refl _) (msg := .ref sa) rfl
    (g := { method := m, pc := pc + 6, locals := ls, stack := .ref sa :: .ref T.heap.size :: .ref T.heap.size :: rest, locked := none }) rfl hsize rfl rfl (rest := rest) rfl
    (by rw [hb]; exact d6) (by rw [hb]; exact d9) hout hRframes (by simp only [List.map_cons, List.sum_cons, hcat]; omega) hlocks
  obtain ⟨f1, f2⟩ := vx_frame hsame
  rw [hhp] at f1 f2
  have hWs : s.WarmedH U.vm := State.WarmedH.trans hW0 hW
  have hcl : s.vm.findClass cls = some ce.cls := by
    have h9 := hO.cls
    rw [hvm] at h9
    exact h9
  have hall : s.sameButNew ({ U with vm := s.vm } : State) locs mc ms := by
    subst hA
    obtain ⟨e1, e2⟩ := hsame
    rw [State.setFrames_setFrames] at e1
    have h2 : (T.setVm s.vm).sameButNew ({ U with vm := s.vm } : State) [] (0 + 1) (0 + 6) := ⟨e1, e2⟩
    have h3 := X.same.trans h2
    rw [List.append_nil] at h3
    exact h3.mono hc hs
  refine ⟨U, ?_, .threw T.heap.size, hrun, hend, Or.inr ⟨T.heap.size, rfl, cls, ce, locs, hx U hWs.alike f1 (fun q hq => f2 q hq (fun z hz => nomatch hz)), hce, hO.vm, hcl, hWs, hall, hf⟩⟩
  refine st1 _ ?_
  show Steps p.tables e below (T1.setTop { method := m, pc := pc + 3, locals := ls, stack := .ref T.heap.size :: rest, locked := none }) _
  jvm_step X₁.here [X₁.here.top, hexec, d3', Value.category]
  exact X₁.ldcString hexec (own := own) (text := text) (index := is) (a := sa) hown' hstr'.1 hstr'.2
    (g := { method := m, pc := pc + 4, locals := ls, stack := .ref T.heap.size :: .ref T.heap.size :: rest, locked := none }) rfl d4' _ hsteps
/-- 'throw new E("text")', the text by a wide index -/
theorem vx_throwSW {cc : ByteArray} {pc : Nat} (hexec : p.tables.exec = Jvm.exec) (hb : c.code = cc) (hl : l.stackTraces = false) {own cls text : String} {names : List String} {ik is ic mc ms sa : Nat} {A : Nat → Prop}
    (hown : s.vm.findClass own = some m.cls) (hcls : Bundle.fit cls = true) (hnames : ∀ n ∈ names, Bundle.fit n = true)
    (hk : (Cond.classLink own ik cls).before args s = true) (hini : (Cond.initialized cls).before args s = true) (hstr : vk_R own is text sa s) (hat : ∀ w ∈ vx_atS own ic cls names, w.before args s = true)
    (hgood : ∀ w ∈ Cond.classLink own ik cls :: Cond.initialized cls :: vx_atS own ic cls names, vx_ot w = true)
    (hU : vx_Zq Bundle.tN "UNASSIGNED_STACK" Bundle.steD A s s.heap) (hN : vx_Zq Bundle.tN "SUPPRESSED_SENTINEL" Bundle.listD A s s.heap) (hS : va_S A s.heap H locs) (hsize : ls.size = c.maxLocals)
    (d0 : decode cc pc = .ok (.new ik, 3)) (d3 : decode cc (pc + 3) = .ok (.dup, 1)) (d4 : decode cc (pc + 4) = .ok (.ldc_w is, 3)) (d7 : decode cc (pc + 7) = .ok (.invokespecial ic, 3)) (d10 : decode cc (pc + 10) = .ok (.athrow, 1))
    (hout : ∀ x ∈ c.exceptionTable.toList, covers x (pc + 10) = false)
    (hRframes : names.length + 3 < R.frames) (hRlocals : (rest.map fun v => v.category).sum + (13 * (names.length + 1) + 43) ≤ R.locals) (hRcells : cells + 1 ≤ R.cells) (hRslots : slots + 6 ≤ R.slots) (hlocks : meth.locks = false)
    (hx : ∀ t : State, s.vm.Alike t.vm → H.size ≤ t.heap.size → (∀ q : Nat, q < H.size → t.heap[q]? = H[q]?) → XC cls s t)
    (hf : ∀ z ∈ locs, free z.base) (hc : cells + 1 ≤ mc) (hs : slots + 6 ≤ ms) :
    W p l e R s m args below meth c H locs cells slots (vx_MQ below Qc XC args s mc ms free) (F0 m pc ls rest) := by
  intro T hT X
  have htr : e.platform.stackTraces = false := (show e.platform.stackTraces = l.stackTraces by rw [X.admits.platform]).trans hl
  have Y := vx_rebase X (R' := { frames := R.frames, locals := R.locals, cells := 1, slots := 6 }) (Nat.le_refl _) (Nat.le_refl _) hRcells hRslots
  obtain ⟨s', hA⟩ : ∃ z, z = (T.setVm s.vm).setFrames (.invoking m args :: below) := ⟨_, rfl⟩
  rw [← hA] at Y
  have hvm : s'.vm = s.vm := by rw [hA]; rfl
  have hhp : s'.heap = H := by rw [hA]; exact hT
  have hW0 : s.WarmedH s'.vm := by rw [hvm]; exact State.WarmedH.refl s
  have hat' : ∀ w ∈ vx_atS own ic cls names, w.before args s' = true := fun w hw => vx_ot_at hW0 hvm.symm (hgood w (List.mem_cons_of_mem _ (List.mem_cons_of_mem _ hw))) (hat w hw)
  have hk' : (Cond.classLink own ik cls).before args s' = true := vx_ot_at hW0 hvm.symm (hgood _ List.mem_cons_self) hk
  have hini' : (Cond.initialized cls).before args s' = true := vx_ot_at hW0 hvm.symm (hgood _ (List.mem_cons_of_mem _ List.mem_cons_self)) hini
  have hU' : vx_Zq Bundle.tN "UNASSIGNED_STACK" Bundle.steD A s' s'.heap := by rw [hhp]; exact vx_Zq.moved hW0.alike (hU.kept hS.2.1)
  have hN' : vx_Zq Bundle.tN "SUPPRESSED_SENTINEL" Bundle.listD A s' s'.heap := by rw [hhp]; exact vx_Zq.moved hW0.alike (hN.kept hS.2.1)
  have h : ∀ w ∈ Bundle.ownAtoms own ic cls names, w.before args s' = true := vx_own hat' (vx_isRefq hU'.1) (vx_isRefq hN'.1) hU'.2.word hN'.2.word
  have hown' : s'.vm.findClass own = some m.cls := by rw [hvm]; exact hown
  have hins : (Cond.instantiable cls 6).before args s' = true := h _ (by simp [Bundle.ownAtoms])
  obtain ⟨vm₁, cX, kX, hfX, hkX, -, -, X₁, st1⟩ := Y.newCold hexec (own := own) (C := cls) (index := ik) (n := 6) hown' hk' hins hini'
    (g := F0 m pc ls rest) rfl (by rw [hb]; exact d0) (Nat.le_refl _) (Nat.le_refl _)
  generalize hT1 : (T.setVm vm₁).pushCell { cls := cX, slots := kX.instanceTypes.map defaultValue, vm := .none } = T1 at X₁ st1
  have hcat : (Value.ref T.heap.size).category = 1 := rfl
  have hcellA : T1.heap[T.heap.size]? = some (freshCell cX kX) := by rw [← hT1]; exact State.heap_pushCell_size _ _
  have d3' : decode c.code (pc + 3) = .ok (.dup, 1) := by rw [hb]; exact d3
  have d4' : decode c.code (pc + 4) = .ok (.ldc_w is, 3) := by rw [hb]; exact d4
  have hstr' : vk_R own is text sa s' := vk_R.warm hW0 hstr
  obtain ⟨U, hsteps, hrun, hend, hW, hsame, ce, hce, hO⟩ := X₁.ctorThrowS hexec htr (own := own) (cls := cls) (names := names) (ic := ic) hown' hcls hnames h (fun x hx => nomatch hx) hfX hkX hcellA (by rw [hhp, hT]; exact Nat.le_refl _) (msg := .ref sa) rfl
    (g := { method := m, pc := pc + 7, locals := ls, stack := .ref sa :: .ref T.heap.size :: .ref T.heap.size :: rest, locked := none }) rfl hsize rfl rfl (rest := rest) rfl
    (by rw [hb]; exact d7) (by rw [hb]; exact d10) hout hRframes (by simp only [List.map_cons, List.sum_cons, hcat]; omega) hlocks
  obtain ⟨f1, f2⟩ := vx_frame hsame
  rw [hhp] at f1 f2
  have hWs : s.WarmedH U.vm := State.WarmedH.trans hW0 hW
  have hcl : s.vm.findClass cls = some ce.cls := by
    have h9 := hO.cls
    rw [hvm] at h9
    exact h9
  have hall : s.sameButNew ({ U with vm := s.vm } : State) locs mc ms := by
    subst hA
    obtain ⟨e1, e2⟩ := hsame
    rw [State.setFrames_setFrames] at e1
    have h2 : (T.setVm s.vm).sameButNew ({ U with vm := s.vm } : State) [] (0 + 1) (0 + 6) := ⟨e1, e2⟩
    have h3 := X.same.trans h2
    rw [List.append_nil] at h3
    exact h3.mono hc hs
  refine ⟨U, ?_, .threw T.heap.size, hrun, hend, Or.inr ⟨T.heap.size, rfl, cls, ce, locs, hx U hWs.alike f1 (fun q hq => f2 q hq (fun z hz => nomatch hz)), hce, hO.vm, hcl, hWs, hall, hf⟩⟩
  refine st1 _ ?_
  show Steps p.tables e below (T1.setTop { method := m, pc := pc + 3, locals := ls, stack := .ref T.heap.size :: rest, locked := none }) _
  jvm_step X₁.here [X₁.here.top, hexec, d3', Value.category]
  exact X₁.ldcStringW hexec (own := own) (text := text) (index := is) (a := sa) hown' hstr'.1 hstr'.2
    (g := { method := m, pc := pc + 4, locals := ls, stack := .ref T.heap.size :: .ref T.heap.size :: rest, locked := none }) rfl d4' _ hsteps
end Ends
section Bodies
variable {l : Launch}
theorem vx_ofW {y : MethodName} {ws ws' : List Cond} {rm : Room} {Pc : Array Value → State → Prop} {Qc : Array Value → State → Outcome → State → Prop} {XC : String → State → State → Prop} {mc ms : Nat} {free : Addr → Prop} {cc : ByteArray} {maxL : Nat} {ret : Option FieldType}
    (hy : plainName y.cls = true) (hw : ws = Cond.code y cc maxL ret :: ws')
    (body : ∀ p e s m args below meth c s₁, BodyLoose p l y (headSpec ws rm) cc maxL ret e s m args below meth c s₁ → c.maxLocals = maxL → (∀ x ∈ c.exceptionTable.toList, False) → Pc args s →
      W p l e (headSpec ws rm).room s m args below meth c s.heap [] 0 0 (vx_MQ below Qc XC args s mc ms free) (entryFrame m args maxL)) : vx_Met l y ws rm Pc Qc XC mc ms free := by
  refine MetFree.of_bodyS (code := cc) (maxLocals := maxL) (ret := ret) hy ?_ ?_
  · intro args s m h hn
    obtain ⟨meth, c, h1, h2, h3, h4, h5, h6, -, -⟩ := Cond.code_spec hn (atoms_spec (ws := ws) h _ (by rw [hw]; exact List.mem_cons_self))
    exact ⟨meth, c, h1, h2, h3, h4, h5, h6⟩
  · intro p e s m args below meth c s₁ B hml hP _
    have hh0 : s₁.heap = s.heap := by rw [B.state]; rfl
    have ht : ∀ x ∈ c.exceptionTable.toList, False := by
      obtain ⟨meth9, c9, h1, h2, -, -, -, -, h7, -⟩ := Cond.code_spec B.named (atoms_spec (ws := ws) B.pre _ (by rw [hw]; exact List.mem_cons_self))
      cases Option.some.inj (h1.symm.trans B.method)
      cases Option.some.inj (h2.symm.trans (Stand.of_body B).code)
      intro x hx
      rw [Array.isEmpty_iff.mp h7] at hx
      cases hx
    obtain ⟨t, a1, o, b1, b2, b3⟩ := body p e s m args below meth c s₁ B hml ht hP s₁ hh0 (Stand.of_body B)
    exact ⟨t, o, a1, b1, b2, b3⟩
/-- the table of a body with handlers -/
theorem vx_table {p : Program} {x y : MethodName} {S : Spec} {cc bytes : ByteArray} {maxL maxL' : Nat} {ret ret' : Option FieldType} {e : Env} {s s₁ : State} {m : MethodId} {args : Array Value} {below : List Frame} {meth : Method} {c : Code} {hh : List (Nat × Nat × Nat × Nat)}
    (B : BodyLoose p l y S cc maxL ret e s m args below meth c s₁) (h : (Cond.codeWith y bytes maxL' ret' hh).before args s = true) : c.exceptionTable.toList = tableOf hh := by
  obtain ⟨m9, meth9, c9, hn9, h1, h2, -, -, h6, -⟩ := Cond.codeWith_spec h
  cases Option.some.inj (hn9.symm.trans B.named)
  cases Option.some.inj (h1.symm.trans B.method)
  cases Option.some.inj (h2.symm.trans (Stand.of_body B).code)
  rw [← h6, table_eq]
end Bodies
end VXA
/-! ===== END ===== -/
/-! ===== BEGIN a static call of a method with an exception table ===== -/
section VXS
variable {p : Program} {l : Launch} {e : Env} {R : Room} {s : State} {m : MethodId} {args : Array Value} {below : List Frame} {meth : Method} {c : Code} {T : State} {H : Heap} {locs : List Loc} {cells slots : Nat}
abbrev vx_CSW (R : Room) (s : State) (args : Array Value) (own : String) (index : Nat) (y : MethodName) (bytes : ByteArray) (maxL : Nat) (ret : Option FieldType) (hh : List (Nat × Nat × Nat × Nat)) (ws : List Cond) (rm : Room) (mc ms n : Nat) : Prop :=
  (rm.cells = mc ∧ rm.slots = ms ∧ rm.frames + 1 ≤ R.frames ∧ 8 + (maxL + 11) + rm.locals ≤ R.locals ∧ (∀ w ∈ ws, ∀ (a' : Array Value) (U : State), s.WarmedH U.vm → w.before a' U = true) ∧ Cond.codeWith y bytes maxL ret hh ∈ ws) ∧
  (Cond.codeWith y bytes maxL ret hh).before args s = true ∧ (Cond.initialized y.cls).before args s = true ∧ (y.cls ≠ "java/lang/invoke/MethodHandle" ∧ y.cls ≠ "java/lang/invoke/VarHandle") ∧
  (∀ sig, parseMethodDescriptor y.desc = some sig → n = sig.parameters.length) ∧ (Cond.methodLink own index y).before args s = true ∧ (Cond.static y).before args s = true
theorem vx_cwSW {own : String} {index maxL mc ms : Nat} {y : MethodName} {bytes : ByteArray} {ret : Option FieldType} {hh : List (Nat × Nat × Nat × Nat)} {Ts ws ws' : List Cond} {rm : Room} (n : Nat) (ht : ∀ w ∈ Ts, w.before args s = true) (hT : GoodIn Ts (va_wsS own index y ws)) (hw : ws = Cond.codeWith y bytes maxL ret hh :: ws') (hrc : rm.cells = mc) (hrs : rm.slots = ms)
    (hd : y.cls ≠ "java/lang/invoke/MethodHandle" ∧ y.cls ≠ "java/lang/invoke/VarHandle" ∧ (parseMethodDescriptor y.desc).map (fun d => d.parameters.length) = some n) (hR : rm.frames + 1 ≤ R.frames ∧ 8 + (maxL + 11) + rm.locals ≤ R.locals) :
    vx_CSW R s args own index y bytes maxL ret hh ws rm mc ms n := by
  have ok : ∀ w ∈ va_wsS own index y ws, w.before args s = true := fun w h => ht w (hT w h).1
  have hG : GoodIn Ts ws := fun w h => hT w (by unfold va_wsS; exact List.mem_append_right _ h)
  have hc : Cond.codeWith y bytes maxL ret hh ∈ ws := by rw [hw]; exact List.mem_cons_self
  refine ⟨⟨hrc, hrs, hR.1, hR.2, pay_in ht hG, hc⟩, ht _ (hG _ hc).1, ok _ (by simp [va_wsS]), ⟨hd.1, hd.2.1⟩, fun sig h => ?_, ok _ (by simp [va_wsS]), ok _ (by simp [va_wsS])⟩
  have h2 := hd.2.2
  rw [h] at h2
  exact (Option.some.inj h2).symm
theorem vx_callSW (X : Stand p l e R s m args below meth c T locs cells slots) (hexec : p.tables.exec = Jvm.exec) {own : String} {index : Nat} {y : MethodName} {bytes : ByteArray} {maxL : Nat} {ret : Option FieldType} {hh : List (Nat × Nat × Nat × Nat)}
    (hown : s.vm.findClass own = some m.cls) (hlink : (Cond.methodLink own index y).before args s = true) (hstat : (Cond.static y).before args s = true) (hinit : (Cond.initialized y.cls).before args s = true)
    (hcode : (Cond.codeWith y bytes maxL ret hh).before args s = true) (hy : y.cls ≠ "java/lang/invoke/MethodHandle" ∧ y.cls ≠ "java/lang/invoke/VarHandle")
    {W9 : Nat} {Pre : Pt → Array Value → Prop} {Post : Pt → Array Value → Option Value → Pt → Prop} (hK : Back l R p e below s args y 3 W9 Pre Post)
    {g : JFrame} (hg : g.method = m) (hsize : g.locals.size = c.maxLocals) {argsL rest : List Value} (hlen : ∀ sig, parseMethodDescriptor y.desc = some sig → argsL.length = sig.parameters.length)
    (hstack : g.stack = argsL.reverse ++ rest) (hW : 2 * g.monitorRoom + (rest.map fun v => v.category).sum ≤ W9) (hdg : decode c.code g.pc = .ok (.invokestatic index, 3))
    (hpre : ∀ vm₁, s.WarmedH vm₁ → Pre ⟨T.setVm vm₁, locs, cells, slots⟩ argsL.toArray) :
    ∃ (v : Option Value) (vm₁ : Vm) (B : Pt), s.WarmedH vm₁ ∧ Stand p l e R s m args below meth c B.U B.locs B.cells B.slots ∧ Post ⟨T.setVm vm₁, locs, cells, slots⟩ argsL.toArray v B ∧
      ∀ target, Steps p.tables e below (B.U.setTop { g with pc := g.pc + 3, stack := v.toList ++ rest }) target → Steps p.tables e below (T.setTop g) target := by
  obtain ⟨mk, methM, cM, hnamed, hmethM, -, -, -, -, -, -, hsigM⟩ := Cond.codeWith_spec hcode
  have hstatic : methM.isStatic = true := Cond.static_spec hnamed hmethM hstat
  obtain ⟨kP, hkP, -⟩ := className_of_methodNamed hnamed
  have hinitP : kP.init = .initialized := Cond.initialized_spec (findClass_of_methodNamed hnamed) hkP hinit
  obtain ⟨vm₁, X₁, hstep₁⟩ := X.invokestatic hexec hown hlink hnamed hmethM hstatic hkP hinitP hy (g := g) hg (argsL := argsL) (rest := rest) (hlen _ hsigM) hstack hdg
  obtain ⟨v, B, X', hpost, hsteps⟩ := hK m meth c ⟨T.setVm vm₁, locs, cells, slots⟩ { g with stack := rest } (.invokestatic index) mk argsL.toArray X₁ hg hsize hdg hW (X₁.named hnamed) (hpre vm₁ X₁.warmed)
  exact ⟨v, vm₁, B, X₁.warmed, X', hpost, fun target h => hstep₁ _ fun acts => by rw [doInvoke_state]; exact hsteps.trans h⟩
theorem vx_runSW {y : MethodName} {bytes cc : ByteArray} {maxL nL mc ms n index : Nat} {ret : Option FieldType} {hh : List (Nat × Nat × Nat × Nat)} {ws : List Cond} {rm : Room} {Pc : Array Value → State → Prop} {Qc : Array Value → State → Outcome → State → Prop} {free : Addr → Prop} {Ts : List Cond} {own : String} {As rest : List Value} {g : JFrame}
    (S : CallFix p m c cc nL s args Ts own) (hM : Met l y ws rm Pc Qc mc ms free) (cw : vx_CSW R s args own index y bytes maxL ret hh ws rm mc ms n) (hp : PreS s H Pc As)
    (hg : g.method = m) (hn : As.length = n) (hsize : g.locals.size = nL) (hstack : g.stack = As.reverse ++ rest) (hW : 2 * g.monitorRoom + (rest.map fun v => v.category).sum ≤ 8) (hdg : decode cc g.pc = .ok (.invokestatic index, 3)) (hf : cells + mc ≤ R.cells ∧ slots + ms ≤ R.slots) :
    va_Run p l e R s m args below meth c H locs cells slots mc ms g rest (Qc As.toArray) (free) := by
  obtain ⟨⟨hrc, hrs, hfr, hlo, hws, hcw⟩, hcode, hini, hy, hlen, hl, hstt⟩ := cw
  have hK : Back l R p e below s args y 3 8 (PreOf R mc ms Pc) (PostOf Qc mc ms free) := va_backW (hh := hh) (bytes := bytes) (maxL := maxL) (ret := ret) hM hp.1 hrc hrs hfr hlo hws hcw (fun a' U hW => word_at hW (Or.inl (by first | rfl | simp [Cond.onTables, Cond.keeps, Cond.steady])) hini)
  obtain ⟨hx, hb, hml, ho, -⟩ := S
  intro T hT X
  obtain ⟨v, vm₁, ⟨U', l2, c2, s2⟩, hW₁, X', ⟨g', mk, t, L, e1, e2, hq, h1, hL, h2, h3⟩, st⟩ := vx_callSW X hx (hh := hh) (bytes := bytes) (maxL := maxL) (ret := ret) ho hl hstt hini hcode hy hK hg (hsize.trans hml.symm) (argsL := As) (rest := rest) (fun sig h => hn.trans (hlen sig h)) hstack hW (by rw [hb]; exact hdg)
    (fun vm₁ hW₁ => ⟨hf.1, hf.2, hp.2 (T.setVm vm₁) hT hW₁⟩)
  dsimp only [Pt.U, Pt.locs, Pt.cells, Pt.slots] at X' e1 e2 h1 h2 h3 st
  subst h1; subst h2; subst h3
  exact ⟨v, (T.setVm vm₁).calling g' mk As.toArray, t, U', L, hT, X', hL, e1, e2, hq, st⟩
/-- not caught here, past rows that name other classes: it goes on to the caller -/
theorem vx_outP {p : Program} {l : Launch} {e : Env} {R : Room} {s : State} {m : MethodId} {args : Array Value} {below : List Frame} {meth : Method} {c : Code} {H : Heap} {locs : List Loc} {cells slots : Nat} {free : Addr → Prop} {ls : Array Slot} {rest : List Value} {Qc : Array Value → State → Outcome → State → Prop} {XC : String → State → State → Prop}
    {pc : Nat} {own E : String} {ce : Cell} {q : Addr} {mc ms : Nat} (hown : s.vm.findClass own = some m.cls) (hlocks : meth.locks = false)
    (hpass : ∀ z ∈ c.exceptionTable.toList, covers z pc = false ∨ (z.catchType ≠ 0 ∧ ∃ nm : String, (Cond.classLink own z.catchType nm).before args s = true ∧ va_Nc E nm s)) (hcell : H[q]? = some ce) (hv : ce.vm = .none) (hcl : s.vm.findClass E = some ce.cls)
    (hx : ∀ t : State, t.heap = H → s.vm.Alike t.vm → XC E s t) (hf : ∀ z ∈ locs, free z.base) (hc : cells ≤ mc) (hs : slots ≤ ms) :
    vx_W p l e R s m args below meth c H locs cells slots (vx_MQ below Qc XC args s mc ms free) (F0 m pc ls rest) q := by
  intro T hT X
  have hpl : e.platform.magicAccessors = ({} : Platform).magicAccessors := by rw [X.admits.platform]
  obtain ⟨vm', hW', X', st⟩ := X.outThrough hlocks q (g := F0 m pc ls rest) rfl rfl rfl (cell := ce) (by rw [hT]; exact hcell) (by rw [hv]; rfl)
    (by obtain ⟨k9, h9, -⟩ := Vm.findClass_spec hcl; exact ⟨k9, h9⟩) (fun z hz => by
      rcases hpass z hz with h | ⟨hz0, nm, hl1, hn1⟩
      · exact Or.inl h
      · obtain ⟨c6, hc6, hcl6⟩ := Cond.classLink_spec hown hl1 e.platform hpl
        obtain ⟨a8, b8, h1, h2, h3⟩ := hn1
        cases Option.some.inj (h1.symm.trans hcl)
        cases Option.some.inj (h2.symm.trans hc6)
        exact Or.inr ⟨hz0, _, hcl6, h3⟩)
  obtain ⟨g₀, hfr⟩ := X'.frames_eq
  have hcell9 : ((T.setVm vm').setFrames (.throwing q :: below)).heap[q]? = some ce := by
    show T.heap[q]? = some ce
    rw [hT]; exact hcell
  have hend : Ended ((T.setVm vm').setFrames (.throwing q :: below)) below (.threw q) := State.frames_setFrames _ (State.cur_lt_of_frames hfr)
  refine ⟨(T.setVm vm').setFrames (.throwing q :: below), ?_, .threw q, X'.here.running, hend, Or.inr ⟨q, rfl, E, ce, locs, hx _ hT (X'.ends _).1.alike, hcell9, hv, hcl, (X'.ends _).1, (X'.ends _).2.mono hc hs, hf⟩⟩
  rw [X.pushThrowing_eq]
  exact st
/-- a thing of a world lies in the heap -/
theorem vx_lt {D : va_G} {cl : List vw_C} {ws : va_W} {H1 : Heap} (h : va_P D cl ws H1) {k : Nat} {q : Nat × va_E} (hk : ws[k]? = some q) : q.1 < H1.size := (h k q hk).lt
end VXS
/-! ===== END ===== -/
/-! ===== BEGIN methods with a table of their own: called by a name, returning or throwing ===== -/
section VXH
/-! vx_backW, vx_callVX, vx_callSX, vx_callVW, vx_runVW, vx_runVX, vx_runSX, vx_ofWH follow the same proofs as their sisters above (Free/Laws.lean, Shelf42/LK1.lean); vx_outP calls Shelf42/NT130.lean (outThrough). -/
section
variable {l : Launch} {R : Room} {p : Program} {e : Env} {below : List Frame} {s : State} {sargs : Array Value} {y : MethodName} {len W9 : Nat}
theorem vx_backW {ws : List Cond} {rm : Room} {Pc : Array Value → State → Prop} {Qc : Array Value → State → Outcome → State → Prop} {XC : String → State → State → Prop} {mc ms : Nat} {free : Addr → Prop} {bytes : ByteArray} {maxL : Nat} {ret : Option FieldType} {hh : List (Nat × Nat × Nat × Nat)}
    (hM : vx_Met l y ws rm Pc Qc XC mc ms free) (hblind : FrameBlind Pc) (hrc : rm.cells = mc) (hrs : rm.slots = ms)
    (hframes : rm.frames + 1 ≤ R.frames) (hlocals : W9 + (maxL + 11) + rm.locals ≤ R.locals)
    (hws : ∀ w ∈ ws, ∀ a' U, s.WarmedH U.vm → w.before a' U = true) (hcode : Cond.codeWith y bytes maxL ret hh ∈ ws) (hinit : ∀ a' U, s.WarmedH U.vm → (Cond.initialized y.cls).before a' U = true) :
    vx_Back l R p e below s sargs y len W9 (PreOf R mc ms Pc) (PostOf Qc mc ms free) (vx_Post XC mc ms free) := by
  intro m meth c A g ig mk a X hg hsize hdg hW hn hp
  have h1 : (headSpec ws rm).pre.before a A.U = true := atoms_intro fun w hw => hws w hw _ _ X.warmed
  have h2 : (Cond.codeWith y bytes maxL ret hh).before a A.U = true := hws _ hcode _ _ X.warmed
  have h3 : (Cond.initialized y.cls).before a A.U = true := hinit _ _ X.warmed
  have h4 : A.cells + (headSpec ws rm).room.cells ≤ R.cells := by rw [show (headSpec ws rm).room.cells = mc from hrc]; exact hp.1
  have h5 : A.slots + (headSpec ws rm).room.slots ≤ R.slots := by rw [show (headSpec ws rm).room.slots = ms from hrs]; exact hp.2.1
  have hPc : Pc a (A.U.calling g mk a) := hblind _ _ _ _ hp.2.2
  obtain ⟨U, Ls, c0, s0⟩ := A
  dsimp only [Pt.U, Pt.locs, Pt.cells, Pt.slots] at h1 h2 h3 h4 h5 X hn hPc ⊢
  obtain ⟨m9, methY, cY, hn9, hmY, hcY, -, hlY, -⟩ := Cond.codeWith_spec h2
  cases Option.some.inj (hn9.symm.trans hn)
  obtain ⟨kY, hkY, -⟩ := className_of_methodNamed hn
  have hinitY : kY.init = .initialized := Cond.initialized_spec (findClass_of_methodNamed hn) hkY h3
  have h : At U g.method c below := by rw [hg]; exact X.here
  have hlocals9 : W9 + (maxL + 11) + (headSpec ws rm).room.locals ≤ R.locals := hlocals
  have happ : (headSpec ws rm).appliesLoose y e.platform (U.calling g mk a) = true :=
    Spec.appliesLoose_calling (g := g) h hdg hn hkY hinitY
      (X.room_calling (g := g) (R' := (headSpec ws rm).room) hsize hmY hcY hframes (by rw [hlY]; omega) h4 h5) h1
  obtain ⟨mid, hmid⟩ := h.above
  have hfr : (U.setTop g).frames = (.java g :: mid) ++ below := by rw [State.frames_setTop' g h.top, hmid]; rfl
  obtain ⟨o, s₂, hsteps, -, hend, hq⟩ := Steps.callFree hM p X.admits X.cas X.clock (acts := []) hfr happ hPc trivial
  have hq' : vx_Q Qc XC mc ms free a (U.calling g mk a) o s₂ := hq
  rw [State.frames_setTop' g h.top] at hend
  obtain ⟨g₀, hg0⟩ := Option.isSome_iff_exists.mp h.top
  obtain ⟨r, hr⟩ := State.topJava?_eq_some.mp hg0
  have hr' : (({ U with heap := s₂.heap, slotsUsed := s₂.slotsUsed } : State).setVm s₂.vm).frames = .java g₀ :: r := hr
  rcases hq' with ⟨hqc, L, hfe, hL⟩ | ⟨q, rfl, E, ce, L, hx, hce, hcv, hcl, hW₂, hsm, hL⟩
  · obtain ⟨⟨v, rfl⟩, hW₂, e2, q2, q3, q4, q5, q6⟩ := id hfe
    have e3 : s₂ = ({ (U.calling g mk a).setFrames s₂.frames with heap := s₂.heap, slotsUsed := s₂.slotsUsed } : State).setVm s₂.vm := by
      have : s₂ = ({ s₂ with vm := (U.calling g mk a).vm } : State).setVm s₂.vm := rfl
      rw [e2] at this
      exact this
    obtain ⟨c₂, i₂, len₂, hc₂, hd₂, hf₂⟩ := hend
    have hW' : U.WarmedH s₂.vm := hW₂
    have hcc : c₂ = c := by
      have h1 : s₂.code? g.method = U.code? g.method := by
        rw [State.code?_eq, State.code?_eq, hW'.alike.method?]
      exact Option.some.inj (hc₂.symm.trans (h1.trans h.code))
    subst hcc
    have hlen : len₂ = len := by rw [hdg] at hd₂; cases hd₂; rfl
    subst hlen
    have hs₂ : s₂ = (({ U with heap := s₂.heap, slotsUsed := s₂.slotsUsed } : State).setVm s₂.vm).setTop { g with pc := g.pc + len₂, stack := v.toList ++ g.stack } := by
      refine e3.trans ?_
      rw [hf₂, State.calling_eq h.top, State.setFrames_setFrames, State.setTop_of_frames _ hr', hr]
      rfl
    have hsame : U.sameButNew ({ U with heap := s₂.heap, slotsUsed := s₂.slotsUsed } : State) L mc ms := by
      refine ⟨?_, q2, q3, q4, q5, q6⟩
      obtain ⟨t, ht, -⟩ := State.frames_cons hr
      show ({ U with heap := s₂.heap, slotsUsed := s₂.slotsUsed } : State) = { U.setFrames U.frames with heap := s₂.heap, slotsUsed := s₂.slotsUsed }
      rw [State.setFrames_self ht]
    subst hg
    refine Or.inl ⟨v, ⟨(({ U with heap := s₂.heap, slotsUsed := s₂.slotsUsed } : State).setVm s₂.vm), Ls ++ L, c0 + mc, s0 + ms⟩,
      ⟨X.admits, X.cas, X.clock, X.frames, X.room, X.hears, X.method, X.code, (X.here.setHeapUsed s₂.heap s₂.slotsUsed).setVm hW'.alike, X.tail, State.WarmedH.trans X.warmed hW', X.limits, X.bytes, X.same.trans (hsame.setVm s.vm)⟩,
      ⟨g, mk, s₂, L, rfl, rfl, hqc, rfl, hL, rfl, rfl⟩, ?_⟩
    show Steps p.tables e below _ ((({ U with heap := s₂.heap, slotsUsed := s₂.slotsUsed } : State).setVm s₂.vm).setTop { g with pc := g.pc + len₂, stack := v.toList ++ g.stack })
    rw [← hs₂]
    exact hsteps
  · obtain ⟨e2, q2, q3, q4, q5, q6⟩ := id hsm
    have e3 : s₂ = ({ (U.calling g mk a).setFrames s₂.frames with heap := s₂.heap, slotsUsed := s₂.slotsUsed } : State).setVm s₂.vm := by
      have : s₂ = ({ s₂ with vm := (U.calling g mk a).vm } : State).setVm s₂.vm := rfl
      rw [e2] at this
      exact this
    have hf₂ : s₂.frames = .throwing q :: .java g :: U.frames.tail := hend
    have hW' : U.WarmedH s₂.vm := hW₂
    have hs₂ : s₂ = ((({ U with heap := s₂.heap, slotsUsed := s₂.slotsUsed } : State).setVm s₂.vm).setTop g).pushFrame (.throwing q) := by
      refine e3.trans ?_
      rw [hf₂, State.calling_eq h.top, State.setFrames_setFrames, State.pushFrame, State.frames_setTop _ hr', State.setTop_of_frames _ hr', State.setFrames_setFrames, hr]
      rfl
    have hsame : U.sameButNew ({ U with heap := s₂.heap, slotsUsed := s₂.slotsUsed } : State) L mc ms := by
      refine ⟨?_, q2, q3, q4, q5, q6⟩
      obtain ⟨t, ht, -⟩ := State.frames_cons hr
      show ({ U with heap := s₂.heap, slotsUsed := s₂.slotsUsed } : State) = { U.setFrames U.frames with heap := s₂.heap, slotsUsed := s₂.slotsUsed }
      rw [State.setFrames_self ht]
    subst hg
    refine Or.inr ⟨q, ⟨(({ U with heap := s₂.heap, slotsUsed := s₂.slotsUsed } : State).setVm s₂.vm), Ls ++ L, c0 + mc, s0 + ms⟩,
      ⟨X.admits, X.cas, X.clock, X.frames, X.room, X.hears, X.method, X.code, (X.here.setHeapUsed s₂.heap s₂.slotsUsed).setVm hW'.alike, X.tail, State.WarmedH.trans X.warmed hW', X.limits, X.bytes, X.same.trans (hsame.setVm s.vm)⟩,
      ⟨g, mk, s₂, L, E, ce, rfl, rfl, hx, hce, hcv, hcl, rfl, hL, rfl, rfl⟩, ?_⟩
    show Steps p.tables e below _ (((({ U with heap := s₂.heap, slotsUsed := s₂.slotsUsed } : State).setVm s₂.vm).setTop g).pushFrame (.throwing q))
    rw [← hs₂]
    exact hsteps
end
variable {p : Program} {l : Launch} {e : Env} {R : Room} {s : State} {m : MethodId} {args : Array Value} {below : List Frame} {meth : Method} {c : Code} {T : State} {H : Heap} {locs : List Loc} {cells slots : Nat}
theorem vx_callVX (X : Stand p l e R s m args below meth c T locs cells slots) (hexec : p.tables.exec = Jvm.exec) {own C : String} {index : Nat} {y : MethodName} {bytes : ByteArray} {maxL : Nat} {ret : Option FieldType} {hh : List (Nat × Nat × Nat × Nat)}
    (hown : s.vm.findClass own = some m.cls) (hlink : (Cond.methodLink own index y).before args s = true) (hinst : (Cond.instanceMethod y).before args s = true) (hsel : (Cond.selects C y y).before args s = true)
    (hcode : (Cond.codeWith y bytes maxL ret hh).before args s = true) (hy : y.cls ≠ "java/lang/invoke/MethodHandle" ∧ y.cls ≠ "java/lang/invoke/VarHandle")
    {W9 : Nat} {Pre : Pt → Array Value → Prop} {Post : Pt → Array Value → Option Value → Pt → Prop} {PostX : Pt → Array Value → Addr → Pt → Prop} (hK : vx_Back l R p e below s args y 3 W9 Pre Post PostX)
    {b : Addr} {cellB : Cell} (hcell : T.heap[b]? = some cellB) (hobj : cellB.vm.isStatics = false) (hcls : s.vm.findClass C = some cellB.cls)
    {g : JFrame} (hg : g.method = m) (hsize : g.locals.size = c.maxLocals) {argsL rest : List Value} (hlen : ∀ sig, parseMethodDescriptor y.desc = some sig → argsL.length = sig.parameters.length)
    (hstack : g.stack = argsL.reverse ++ .ref b :: rest) (hW : 2 * g.monitorRoom + (rest.map fun v => v.category).sum ≤ W9) (hdg : decode c.code g.pc = .ok (.invokevirtual index, 3))
    (hpre : ∀ vm₁, s.WarmedH vm₁ → Pre ⟨T.setVm vm₁, locs, cells, slots⟩ (Value.ref b :: argsL).toArray) :
    (∃ (v : Option Value) (vm₁ : Vm) (B : Pt), s.WarmedH vm₁ ∧ Stand p l e R s m args below meth c B.U B.locs B.cells B.slots ∧ Post ⟨T.setVm vm₁, locs, cells, slots⟩ (Value.ref b :: argsL).toArray v B ∧
      ∀ target, Steps p.tables e below (B.U.setTop { g with pc := g.pc + 3, stack := v.toList ++ rest }) target → Steps p.tables e below (T.setTop g) target) ∨
    (∃ (q : Addr) (vm₁ : Vm) (B : Pt), s.WarmedH vm₁ ∧ Stand p l e R s m args below meth c B.U B.locs B.cells B.slots ∧ PostX ⟨T.setVm vm₁, locs, cells, slots⟩ (Value.ref b :: argsL).toArray q B ∧
      Steps p.tables e below (T.setTop g) ((B.U.setTop { g with stack := rest }).pushFrame (.throwing q))) := by
  obtain ⟨mk, methM, hnamed, hmethM, hstM, habM⟩ := Cond.instanceMethod_spec hinst
  obtain ⟨m8, methM', cM, hn8, hmethM', -, -, -, -, -, -, hsigM⟩ := Cond.codeWith_spec hcode
  cases Option.some.inj (hn8.symm.trans hnamed)
  cases hmethM.symm.trans hmethM'
  obtain ⟨c2, r2, m2, q1, q2, q3, q4, kP, hkP, hkPi⟩ := Cond.selects_spec hsel
  cases hcls.symm.trans q1
  cases (State.methodFound?_of_named hnamed hy).symm.trans q2
  cases hnamed.symm.trans q3
  have hselP : selectMethod e.platform s.vm cellB.cls mk = .method mk := by rw [Launch.admits_selectMethod X.admits]; exact q4
  obtain ⟨vm₁, X₁, hstep₁⟩ := X.invokevirtual hexec hown hlink hnamed hmethM hstM hkP hkPi hy (a := b) (cell := cellB) hcell
    (fun z h => by rw [h] at hobj; cases hobj) hselP hmethM habM hkP hkPi (g := g) hg (argsL := argsL) (rest := rest) (hlen _ hsigM) hstack hdg
  rcases hK m meth c ⟨T.setVm vm₁, locs, cells, slots⟩ { g with stack := rest } (.invokevirtual index) mk (Value.ref b :: argsL).toArray X₁ hg hsize hdg hW (X₁.named hnamed) (hpre vm₁ X₁.warmed) with ⟨v, B, X', hpost, hsteps⟩ | ⟨q, B, X', hpost, hsteps⟩
  · exact Or.inl ⟨v, vm₁, B, X₁.warmed, X', hpost, fun target h => hstep₁ _ fun acts => by rw [doInvoke_state]; exact hsteps.trans h⟩
  · exact Or.inr ⟨q, vm₁, B, X₁.warmed, X', hpost, hstep₁ _ fun acts => by rw [doInvoke_state]; exact hsteps⟩
theorem vx_callSX (X : Stand p l e R s m args below meth c T locs cells slots) (hexec : p.tables.exec = Jvm.exec) {own : String} {index : Nat} {y : MethodName} {bytes : ByteArray} {maxL : Nat} {ret : Option FieldType} {hh : List (Nat × Nat × Nat × Nat)}
    (hown : s.vm.findClass own = some m.cls) (hlink : (Cond.methodLink own index y).before args s = true) (hstat : (Cond.static y).before args s = true) (hinit : (Cond.initialized y.cls).before args s = true)
    (hcode : (Cond.codeWith y bytes maxL ret hh).before args s = true) (hy : y.cls ≠ "java/lang/invoke/MethodHandle" ∧ y.cls ≠ "java/lang/invoke/VarHandle")
    {W9 : Nat} {Pre : Pt → Array Value → Prop} {Post : Pt → Array Value → Option Value → Pt → Prop} {PostX : Pt → Array Value → Addr → Pt → Prop} (hK : vx_Back l R p e below s args y 3 W9 Pre Post PostX)
    {g : JFrame} (hg : g.method = m) (hsize : g.locals.size = c.maxLocals) {argsL rest : List Value} (hlen : ∀ sig, parseMethodDescriptor y.desc = some sig → argsL.length = sig.parameters.length)
    (hstack : g.stack = argsL.reverse ++ rest) (hW : 2 * g.monitorRoom + (rest.map fun v => v.category).sum ≤ W9) (hdg : decode c.code g.pc = .ok (.invokestatic index, 3))
    (hpre : ∀ vm₁, s.WarmedH vm₁ → Pre ⟨T.setVm vm₁, locs, cells, slots⟩ argsL.toArray) :
    (∃ (v : Option Value) (vm₁ : Vm) (B : Pt), s.WarmedH vm₁ ∧ Stand p l e R s m args below meth c B.U B.locs B.cells B.slots ∧ Post ⟨T.setVm vm₁, locs, cells, slots⟩ argsL.toArray v B ∧
      ∀ target, Steps p.tables e below (B.U.setTop { g with pc := g.pc + 3, stack := v.toList ++ rest }) target → Steps p.tables e below (T.setTop g) target) ∨
    (∃ (q : Addr) (vm₁ : Vm) (B : Pt), s.WarmedH vm₁ ∧ Stand p l e R s m args below meth c B.U B.locs B.cells B.slots ∧ PostX ⟨T.setVm vm₁, locs, cells, slots⟩ argsL.toArray q B ∧
      Steps p.tables e below (T.setTop g) ((B.U.setTop { g with stack := rest }).pushFrame (.throwing q))) := by
  obtain ⟨mk, methM, cM, hnamed, hmethM, -, -, -, -, -, -, hsigM⟩ := Cond.codeWith_spec hcode
  have hstatic : methM.isStatic = true := Cond.static_spec hnamed hmethM hstat
  obtain ⟨kP, hkP, -⟩ := className_of_methodNamed hnamed
  have hinitP : kP.init = .initialized := Cond.initialized_spec (findClass_of_methodNamed hnamed) hkP hinit
  obtain ⟨vm₁, X₁, hstep₁⟩ := X.invokestatic hexec hown hlink hnamed hmethM hstatic hkP hinitP hy (g := g) hg (argsL := argsL) (rest := rest) (hlen _ hsigM) hstack hdg
  rcases hK m meth c ⟨T.setVm vm₁, locs, cells, slots⟩ { g with stack := rest } (.invokestatic index) mk argsL.toArray X₁ hg hsize hdg hW (X₁.named hnamed) (hpre vm₁ X₁.warmed) with ⟨v, B, X', hpost, hsteps⟩ | ⟨q, B, X', hpost, hsteps⟩
  · exact Or.inl ⟨v, vm₁, B, X₁.warmed, X', hpost, fun target h => hstep₁ _ fun acts => by rw [doInvoke_state]; exact hsteps.trans h⟩
  · exact Or.inr ⟨q, vm₁, B, X₁.warmed, X', hpost, hstep₁ _ fun acts => by rw [doInvoke_state]; exact hsteps⟩
theorem vx_callVW (X : Stand p l e R s m args below meth c T locs cells slots) (hexec : p.tables.exec = Jvm.exec) {own C : String} {index : Nat} {y : MethodName} {bytes : ByteArray} {maxL : Nat} {ret : Option FieldType} {hh : List (Nat × Nat × Nat × Nat)}
    (hown : s.vm.findClass own = some m.cls) (hlink : (Cond.methodLink own index y).before args s = true) (hinst : (Cond.instanceMethod y).before args s = true) (hsel : (Cond.selects C y y).before args s = true)
    (hcode : (Cond.codeWith y bytes maxL ret hh).before args s = true) (hy : y.cls ≠ "java/lang/invoke/MethodHandle" ∧ y.cls ≠ "java/lang/invoke/VarHandle")
    {W9 : Nat} {Pre : Pt → Array Value → Prop} {Post : Pt → Array Value → Option Value → Pt → Prop} (hK : Back l R p e below s args y 3 W9 Pre Post)
    {b : Addr} {cellB : Cell} (hcell : T.heap[b]? = some cellB) (hobj : cellB.vm.isStatics = false) (hcls : s.vm.findClass C = some cellB.cls)
    {g : JFrame} (hg : g.method = m) (hsize : g.locals.size = c.maxLocals) {argsL rest : List Value} (hlen : ∀ sig, parseMethodDescriptor y.desc = some sig → argsL.length = sig.parameters.length)
    (hstack : g.stack = argsL.reverse ++ .ref b :: rest) (hW : 2 * g.monitorRoom + (rest.map fun v => v.category).sum ≤ W9) (hdg : decode c.code g.pc = .ok (.invokevirtual index, 3))
    (hpre : ∀ vm₁, s.WarmedH vm₁ → Pre ⟨T.setVm vm₁, locs, cells, slots⟩ (Value.ref b :: argsL).toArray) :
    ∃ (v : Option Value) (vm₁ : Vm) (B : Pt), s.WarmedH vm₁ ∧ Stand p l e R s m args below meth c B.U B.locs B.cells B.slots ∧ Post ⟨T.setVm vm₁, locs, cells, slots⟩ (Value.ref b :: argsL).toArray v B ∧
      ∀ target, Steps p.tables e below (B.U.setTop { g with pc := g.pc + 3, stack := v.toList ++ rest }) target → Steps p.tables e below (T.setTop g) target := by
  obtain ⟨mk, methM, hnamed, hmethM, hstM, habM⟩ := Cond.instanceMethod_spec hinst
  obtain ⟨m8, methM', cM, hn8, hmethM', -, -, -, -, -, -, hsigM⟩ := Cond.codeWith_spec hcode
  cases Option.some.inj (hn8.symm.trans hnamed)
  cases hmethM.symm.trans hmethM'
  obtain ⟨c2, r2, m2, q1, q2, q3, q4, kP, hkP, hkPi⟩ := Cond.selects_spec hsel
  cases hcls.symm.trans q1
  cases (State.methodFound?_of_named hnamed hy).symm.trans q2
  cases hnamed.symm.trans q3
  have hselP : selectMethod e.platform s.vm cellB.cls mk = .method mk := by rw [Launch.admits_selectMethod X.admits]; exact q4
  obtain ⟨vm₁, X₁, hstep₁⟩ := X.invokevirtual hexec hown hlink hnamed hmethM hstM hkP hkPi hy (a := b) (cell := cellB) hcell
    (fun z h => by rw [h] at hobj; cases hobj) hselP hmethM habM hkP hkPi (g := g) hg (argsL := argsL) (rest := rest) (hlen _ hsigM) hstack hdg
  obtain ⟨v, B, X', hpost, hsteps⟩ := hK m meth c ⟨T.setVm vm₁, locs, cells, slots⟩ { g with stack := rest } (.invokevirtual index) mk (Value.ref b :: argsL).toArray X₁ hg hsize hdg hW (X₁.named hnamed) (hpre vm₁ X₁.warmed)
  exact ⟨v, vm₁, B, X₁.warmed, X', hpost, fun target h => hstep₁ _ fun acts => by rw [doInvoke_state]; exact hsteps.trans h⟩
abbrev vx_CVW (R : Room) (s : State) (args : Array Value) (own C : String) (index : Nat) (y : MethodName) (bytes : ByteArray) (maxL : Nat) (ret : Option FieldType) (hh : List (Nat × Nat × Nat × Nat)) (ws : List Cond) (rm : Room) (mc ms n : Nat) : Prop :=
  (rm.cells = mc ∧ rm.slots = ms ∧ rm.frames + 1 ≤ R.frames ∧ 8 + (maxL + 11) + rm.locals ≤ R.locals ∧ (∀ w ∈ ws, ∀ (a' : Array Value) (U : State), s.WarmedH U.vm → w.before a' U = true) ∧ Cond.codeWith y bytes maxL ret hh ∈ ws) ∧
  (Cond.codeWith y bytes maxL ret hh).before args s = true ∧ (Cond.initialized y.cls).before args s = true ∧ (y.cls ≠ "java/lang/invoke/MethodHandle" ∧ y.cls ≠ "java/lang/invoke/VarHandle") ∧
  (∀ sig, parseMethodDescriptor y.desc = some sig → n = sig.parameters.length) ∧ (Cond.methodLink own index y).before args s = true ∧ (Cond.instanceMethod y).before args s = true ∧ (Cond.selects C y y).before args s = true
theorem vx_cwVW {own C : String} {index maxL mc ms : Nat} {y : MethodName} {bytes : ByteArray} {ret : Option FieldType} {hh : List (Nat × Nat × Nat × Nat)} {Ts ws ws' : List Cond} {rm : Room} (n : Nat) (ht : ∀ w ∈ Ts, w.before args s = true) (hT : GoodIn Ts (wsV own index C y ws)) (hw : ws = Cond.codeWith y bytes maxL ret hh :: ws') (hrc : rm.cells = mc) (hrs : rm.slots = ms)
    (hd : y.cls = C ∧ y.cls ≠ "java/lang/invoke/MethodHandle" ∧ y.cls ≠ "java/lang/invoke/VarHandle" ∧ (parseMethodDescriptor y.desc).map (fun d => d.parameters.length) = some n) (hR : rm.frames + 1 ≤ R.frames ∧ 8 + (maxL + 11) + rm.locals ≤ R.locals) :
    vx_CVW R s args own C index y bytes maxL ret hh ws rm mc ms n := by
  obtain ⟨hC, hd⟩ := hd
  subst hC
  have ok : ∀ w ∈ wsV own index y.cls y ws, w.before args s = true := fun w h => ht w (hT w h).1
  have hG : GoodIn Ts ws := fun w h => hT w (by unfold wsV; exact List.mem_append_right _ h)
  have hc : Cond.codeWith y bytes maxL ret hh ∈ ws := by rw [hw]; exact List.mem_cons_self
  refine ⟨⟨hrc, hrs, hR.1, hR.2, pay_in ht hG, hc⟩, ht _ (hG _ hc).1, ok _ (by simp [wsV]), ⟨hd.1, hd.2.1⟩, fun sig h => ?_, ok _ (by simp [wsV]), ok _ (by simp [wsV]), ok _ (by simp [wsV])⟩
  have h2 := hd.2.2
  rw [h] at h2
  exact (Option.some.inj h2).symm
theorem vx_runVW {y : MethodName} {bytes cc : ByteArray} {maxL nL mc ms n index : Nat} {ret : Option FieldType} {hh : List (Nat × Nat × Nat × Nat)} {ws : List Cond} {rm : Room} {Pc : Array Value → State → Prop} {Qc : Array Value → State → Outcome → State → Prop} {free : Addr → Prop} {Ts : List Cond} {own C : String} {b : Addr} {As rest : List Value} {g : JFrame}
    (S : CallFix p m c cc nL s args Ts own) (hM : Met l y ws rm Pc Qc mc ms free) (cw : vx_CVW R s args own C index y bytes maxL ret hh ws rm mc ms n) (hp : PreV s H C b Pc As)
    (hg : g.method = m) (hn : As.length = n) (hsize : g.locals.size = nL) (hstack : g.stack = As.reverse ++ .ref b :: rest) (hW : 2 * g.monitorRoom + (rest.map fun v => v.category).sum ≤ 8) (hdg : decode cc g.pc = .ok (.invokevirtual index, 3)) (hf : cells + mc ≤ R.cells ∧ slots + ms ≤ R.slots) :
    va_Run p l e R s m args below meth c H locs cells slots mc ms g rest (Qc (Value.ref b :: As).toArray) free := by
  obtain ⟨⟨hrc, hrs, hfr, hlo, hws, hcw⟩, hcode, hini, hy, hlen, hl, hin, hse⟩ := cw
  have hK : Back l R p e below s args y 3 8 (PreOf R mc ms Pc) (PostOf Qc mc ms free) := va_backW (hh := hh) (bytes := bytes) (maxL := maxL) (ret := ret) hM hp.1 hrc hrs hfr hlo hws hcw (fun a' U hW => word_at hW (Or.inl (by first | rfl | simp [Cond.onTables, Cond.keeps, Cond.steady])) hini)
  obtain ⟨hx, hb, hml, ho, -⟩ := S
  obtain ⟨-, ⟨cellB, hcB, hoB, hclB⟩, hPc⟩ := hp
  intro T hT X
  obtain ⟨v, vm₁, ⟨U', l2, c2, s2⟩, hW₁, X', ⟨g', mk, t, L, e1, e2, hq, h1, hL, h2, h3⟩, st⟩ := vx_callVW X hx (C := C) (hh := hh) (bytes := bytes) (maxL := maxL) (ret := ret) ho hl hin hse hcode hy hK (by rw [hT]; exact hcB) hoB hclB hg (hsize.trans hml.symm) (argsL := As) (rest := rest) (fun sig h => hn.trans (hlen sig h)) hstack hW (by rw [hb]; exact hdg)
    (fun vm₁ hW₁ => ⟨hf.1, hf.2, hPc (T.setVm vm₁) hT hW₁⟩)
  dsimp only [Pt.U, Pt.locs, Pt.cells, Pt.slots] at X' e1 e2 h1 h2 h3 st
  subst h1; subst h2; subst h3
  exact ⟨v, (T.setVm vm₁).calling g' mk (Value.ref b :: As).toArray, t, U', L, hT, X', hL, e1, e2, hq, st⟩
section
variable {y : MethodName} {bytes cc : ByteArray} {maxL nL mc ms n index : Nat} {ret : Option FieldType} {ws : List Cond} {rm : Room} {Pc : Array Value → State → Prop} {Qc : Array Value → State → Outcome → State → Prop} {XC : String → State → State → Prop} {free : Addr → Prop} {Ts : List Cond} {own C : String} {b : Addr} {As rest : List Value} {g : JFrame}
theorem vx_runVX {hh : List (Nat × Nat × Nat × Nat)} (S : CallFix p m c cc nL s args Ts own) (hM : vx_Met l y ws rm Pc Qc XC mc ms free) (cw : vx_CVW R s args own C index y bytes maxL ret hh ws rm mc ms n) (hp : PreV s H C b Pc As)
    (hg : g.method = m) (hn : As.length = n) (hsize : g.locals.size = nL) (hstack : g.stack = As.reverse ++ .ref b :: rest) (hW : 2 * g.monitorRoom + (rest.map fun v => v.category).sum ≤ 8) (hdg : decode cc g.pc = .ok (.invokevirtual index, 3)) (hf : cells + mc ≤ R.cells ∧ slots + ms ≤ R.slots) :
    vx_Run p l e R s m args below meth c H locs cells slots mc ms g rest (Qc (Value.ref b :: As).toArray) XC free := by
  obtain ⟨⟨hrc, hrs, hfr, hlo, hws, hcw⟩, hcode, hini, hy, hlen, hl, hin, hse⟩ := cw
  have hK : vx_Back l R p e below s args y 3 8 (PreOf R mc ms Pc) (PostOf Qc mc ms free) (vx_Post XC mc ms free) := vx_backW (hh := hh) (bytes := bytes) (maxL := maxL) (ret := ret) hM hp.1 hrc hrs hfr hlo hws hcw (fun a' U hW => word_at hW (Or.inl (by first | rfl | simp [Cond.onTables, Cond.keeps, Cond.steady])) hini)
  obtain ⟨hx, hb, hml, ho, -⟩ := S
  obtain ⟨-, ⟨cellB, hcB, hoB, hclB⟩, hPc⟩ := hp
  intro T hT X
  rcases vx_callVX X hx (C := C) (hh := hh) (bytes := bytes) (maxL := maxL) (ret := ret) ho hl hin hse hcode hy hK (by rw [hT]; exact hcB) hoB hclB hg (hsize.trans hml.symm) (argsL := As) (rest := rest) (fun sig h => hn.trans (hlen sig h)) hstack hW (by rw [hb]; exact hdg)
    (fun vm₁ hW₁ => ⟨hf.1, hf.2, hPc (T.setVm vm₁) hT hW₁⟩) with ⟨v, vm₁, ⟨U', l2, c2, s2⟩, hW₁, X', ⟨g', mk, t, L, e1, e2, hq, h1, hL, h2, h3⟩, st⟩ | ⟨q, vm₁, ⟨U', l2, c2, s2⟩, hW₁, X', ⟨g', mk, t, L, E, ce, e1, e2, hq, hce, hcv, hcl, h1, hL, h2, h3⟩, st⟩
  · dsimp only [Pt.U, Pt.locs, Pt.cells, Pt.slots] at X' e1 e2 h1 h2 h3 st
    subst h1; subst h2; subst h3
    exact Or.inl ⟨v, (T.setVm vm₁).calling g' mk (Value.ref b :: As).toArray, t, U', L, hT, X', hL, e1, e2, hq, st⟩
  · dsimp only [Pt.U, Pt.locs, Pt.cells, Pt.slots] at X' e1 e2 h1 h2 h3 st hcl
    subst h1; subst h2; subst h3
    exact Or.inr ⟨q, (T.setVm vm₁).calling g' mk (Value.ref b :: As).toArray, t, U', L, E, ce, hT, X', hL, e1, e2, hq, hce, hcv, vx_cls hW₁ hcl, st⟩
theorem vx_runSX {hh : List (Nat × Nat × Nat × Nat)} (S : CallFix p m c cc nL s args Ts own) (hM : vx_Met l y ws rm Pc Qc XC mc ms free) (cw : vx_CSW R s args own index y bytes maxL ret hh ws rm mc ms n) (hp : PreS s H Pc As)
    (hg : g.method = m) (hn : As.length = n) (hsize : g.locals.size = nL) (hstack : g.stack = As.reverse ++ rest) (hW : 2 * g.monitorRoom + (rest.map fun v => v.category).sum ≤ 8) (hdg : decode cc g.pc = .ok (.invokestatic index, 3)) (hf : cells + mc ≤ R.cells ∧ slots + ms ≤ R.slots) :
    vx_Run p l e R s m args below meth c H locs cells slots mc ms g rest (Qc As.toArray) XC free := by
  obtain ⟨⟨hrc, hrs, hfr, hlo, hws, hcw⟩, hcode, hini, hy, hlen, hl, hstt⟩ := cw
  have hK : vx_Back l R p e below s args y 3 8 (PreOf R mc ms Pc) (PostOf Qc mc ms free) (vx_Post XC mc ms free) := vx_backW (hh := hh) (bytes := bytes) (maxL := maxL) (ret := ret) hM hp.1 hrc hrs hfr hlo hws hcw (fun a' U hW => word_at hW (Or.inl (by first | rfl | simp [Cond.onTables, Cond.keeps, Cond.steady])) hini)
  obtain ⟨hx, hb, hml, ho, -⟩ := S
  intro T hT X
  rcases vx_callSX X hx (hh := hh) (bytes := bytes) (maxL := maxL) (ret := ret) ho hl hstt hini hcode hy hK hg (hsize.trans hml.symm) (argsL := As) (rest := rest) (fun sig h => hn.trans (hlen sig h)) hstack hW (by rw [hb]; exact hdg)
    (fun vm₁ hW₁ => ⟨hf.1, hf.2, hp.2 (T.setVm vm₁) hT hW₁⟩) with ⟨v, vm₁, ⟨U', l2, c2, s2⟩, hW₁, X', ⟨g', mk, t, L, e1, e2, hq, h1, hL, h2, h3⟩, st⟩ | ⟨q, vm₁, ⟨U', l2, c2, s2⟩, hW₁, X', ⟨g', mk, t, L, E, ce, e1, e2, hq, hce, hcv, hcl, h1, hL, h2, h3⟩, st⟩
  · dsimp only [Pt.U, Pt.locs, Pt.cells, Pt.slots] at X' e1 e2 h1 h2 h3 st
    subst h1; subst h2; subst h3
    exact Or.inl ⟨v, (T.setVm vm₁).calling g' mk As.toArray, t, U', L, hT, X', hL, e1, e2, hq, st⟩
  · dsimp only [Pt.U, Pt.locs, Pt.cells, Pt.slots] at X' e1 e2 h1 h2 h3 st hcl
    subst h1; subst h2; subst h3
    exact Or.inr ⟨q, (T.setVm vm₁).calling g' mk As.toArray, t, U', L, E, ce, hT, X', hL, e1, e2, hq, hce, hcv, vx_cls hW₁ hcl, st⟩
end
end VXH
theorem vx_ofWH {l : Launch} {y : MethodName} {ws ws' : List Cond} {rm : Room} {Pc : Array Value → State → Prop} {Qc : Array Value → State → Outcome → State → Prop} {XC : String → State → State → Prop} {mc ms : Nat} {free : Addr → Prop} {cc : ByteArray} {maxL : Nat} {ret : Option FieldType} {hh : List (Nat × Nat × Nat × Nat)}
    (hy : plainName y.cls = true) (hw : ws = Cond.codeWith y cc maxL ret hh :: ws')
    (body : ∀ p e s m args below meth c s₁, BodyLoose p l y (headSpec ws rm) cc maxL ret e s m args below meth c s₁ → c.maxLocals = maxL → Pc args s →
      W p l e (headSpec ws rm).room s m args below meth c s.heap [] 0 0 (vx_MQ below Qc XC args s mc ms free) (entryFrame m args maxL)) : vx_Met l y ws rm Pc Qc XC mc ms free := by
  refine MetFree.of_bodyS (code := cc) (maxLocals := maxL) (ret := ret) hy ?_ ?_
  · intro args s m h hn
    obtain ⟨m9, meth, c, hn9, h1, h2, h3, h4, -, h5, h6, -⟩ := Cond.codeWith_spec (atoms_spec (ws := ws) h _ (by rw [hw]; exact List.mem_cons_self))
    cases hn.symm.trans hn9
    exact ⟨meth, c, h1, h2, h3, h4, h5, h6⟩
  · intro p e s m args below meth c s₁ B hml hP _
    have hh0 : s₁.heap = s.heap := by rw [B.state]; rfl
    obtain ⟨t, a1, o, b1, b2, b3⟩ := body p e s m args below meth c s₁ B hml hP s₁ hh0 (Stand.of_body B)
    exact ⟨t, o, a1, b1, b2, b3⟩
/-! ===== END ===== -/
end
section
/-! ===== BEGIN printed: names, fields, word lists, decode rows ===== -/
def RX0 : String := "GainsReckoner$Journal"
def TX0 : u_T := fun k => match k with
  | 0 => ("GainsReckoner$Journal", "sale", "[Z", true)
  | 1 => ("GainsReckoner$Journal", "cancelled", "[Z", true)
  | 2 => ("GainsReckoner$Journal", "share", "[I", true)
  | 3 => ("GainsReckoner$Journal", "day", "[I", true)
  | 4 => ("GainsReckoner$Journal", "count", "[I", true)
  | 5 => ("GainsReckoner$Journal", "money", "[I", true)
  | _ => ("GainsReckoner$Journal", "size", "I", false)
def tyX0 : Nat → FieldType := fun k => match k with
  | 0 => .array .boolean
  | 1 => .array .boolean
  | 2 => .array .int
  | 3 => .array .int
  | 4 => .array .int
  | 5 => .array .int
  | _ => .int
abbrev wsX00 : List Cond := u_ws RX0 TX0 7
theorem nmX0 : ∀ a, a < 7 → ∀ b, b < 7 → a ≠ b → (TX0 a).2.1 ≠ (TX0 b).2.1 := by decide +kernel
theorem tyX0_ok : ∀ k, k < 7 → parseFieldDescriptor (TX0 k).2.2.1 = some (tyX0 k) := by decide +kernel
abbrev cX0_init : ByteArray := prog_2_method_1_code
def yX0_init : MethodName := ⟨RX0, "<init>", "()V"⟩
abbrev cX0_isFull : ByteArray := prog_2_method_2_code
def yX0_isFull : MethodName := ⟨RX0, "isFull", "()Z"⟩
abbrev cX0_enter : ByteArray := prog_2_method_3_code
def yX0_enter : MethodName := ⟨RX0, "enter", "(ZIIII)I"⟩
abbrev cX0_counts : ByteArray := prog_2_method_4_code
def yX0_counts : MethodName := ⟨RX0, "counts", "(II)Z"⟩
def RX1 : String := "GainsReckoner$Ledger"
def TX1 : u_T := fun k => match k with
  | 0 => ("GainsReckoner$Ledger", "share", "I", true)
  | 1 => ("GainsReckoner$Ledger", "splits", "LGainsReckoner$Splits;", true)
  | 2 => ("GainsReckoner$Ledger", "sheet", "LGainsReckoner$Sheet;", true)
  | _ => ("GainsReckoner$Ledger", "matched", "LGainsReckoner$Matches;", true)
def tyX1 : Nat → FieldType := fun k => match k with
  | 0 => .int
  | 1 => .object "GainsReckoner$Splits"
  | 2 => .object "GainsReckoner$Sheet"
  | _ => .object "GainsReckoner$Matches"
abbrev wsX10 : List Cond := u_ws RX1 TX1 4
theorem nmX1 : ∀ a, a < 4 → ∀ b, b < 4 → a ≠ b → (TX1 a).2.1 ≠ (TX1 b).2.1 := by decide +kernel
theorem tyX1_ok : ∀ k, k < 4 → parseFieldDescriptor (TX1 k).2.2.1 = some (tyX1 k) := by decide +kernel
abbrev cX1_init : ByteArray := prog_3_method_1_code
def yX1_init : MethodName := ⟨RX1, "<init>", "(I)V"⟩
abbrev cX1_reckon : ByteArray := prog_3_method_2_code
def yX1_reckon : MethodName := ⟨RX1, "reckon", "(LGainsReckoner$Journal;I)V"⟩
abbrev cX1_heldShares : ByteArray := prog_3_method_3_code
def yX1_heldShares : MethodName := ⟨RX1, "heldShares", "(LGainsReckoner$Journal;I)I"⟩
abbrev cX1_matchSameDay : ByteArray := prog_3_method_4_code
def yX1_matchSameDay : MethodName := ⟨RX1, "matchSameDay", "(I)V"⟩
abbrev cX1_matchLaterDays : ByteArray := prog_3_method_5_code
def yX1_matchLaterDays : MethodName := ⟨RX1, "matchLaterDays", "(II)V"⟩
abbrev cX1_pool : ByteArray := prog_3_method_6_code
def yX1_pool : MethodName := ⟨RX1, "pool", "(I)V"⟩
abbrev cX1_takeBought : ByteArray := prog_3_method_7_code
def yX1_takeBought : MethodName := ⟨RX1, "takeBought", "(II)I"⟩
abbrev cX1_takeSold : ByteArray := prog_3_method_8_code
def yX1_takeSold : MethodName := ⟨RX1, "takeSold", "(II)I"⟩
def RX2 : String := "GainsReckoner$Matches"
def TX2 : u_T := fun k => match k with
  | 0 => ("GainsReckoner$Matches", "kind", "[I", true)
  | 1 => ("GainsReckoner$Matches", "soldOn", "[I", true)
  | 2 => ("GainsReckoner$Matches", "boughtOn", "[I", true)
  | 3 => ("GainsReckoner$Matches", "units", "[I", true)
  | 4 => ("GainsReckoner$Matches", "cost", "[I", true)
  | 5 => ("GainsReckoner$Matches", "proceeds", "[I", true)
  | _ => ("GainsReckoner$Matches", "size", "I", false)
def tyX2 : Nat → FieldType := fun k => match k with
  | 0 => .array .int
  | 1 => .array .int
  | 2 => .array .int
  | 3 => .array .int
  | 4 => .array .int
  | 5 => .array .int
  | _ => .int
abbrev wsX20 : List Cond := u_ws RX2 TX2 7
theorem nmX2 : ∀ a, a < 7 → ∀ b, b < 7 → a ≠ b → (TX2 a).2.1 ≠ (TX2 b).2.1 := by decide +kernel
theorem tyX2_ok : ∀ k, k < 7 → parseFieldDescriptor (TX2 k).2.2.1 = some (tyX2 k) := by decide +kernel
abbrev cX2_init : ByteArray := prog_4_method_1_code
def yX2_init : MethodName := ⟨RX2, "<init>", "()V"⟩
abbrev cX2_add : ByteArray := prog_4_method_2_code
def yX2_add : MethodName := ⟨RX2, "add", "(IIIIII)V"⟩
abbrev cX2_costOfAll : ByteArray := prog_4_method_3_code
def yX2_costOfAll : MethodName := ⟨RX2, "costOfAll", "()I"⟩
abbrev cX2_gainOfYear : ByteArray := prog_4_method_4_code
def yX2_gainOfYear : MethodName := ⟨RX2, "gainOfYear", "(I)I"⟩
def RX3 : String := "GainsReckoner$Sheet"
def TX3 : u_T := fun k => match k with
  | 0 => ("GainsReckoner$Sheet", "day", "[I", true)
  | 1 => ("GainsReckoner$Sheet", "bought", "[I", true)
  | 2 => ("GainsReckoner$Sheet", "boughtGone", "[I", true)
  | 3 => ("GainsReckoner$Sheet", "cost", "[I", true)
  | 4 => ("GainsReckoner$Sheet", "sold", "[I", true)
  | 5 => ("GainsReckoner$Sheet", "soldGone", "[I", true)
  | 6 => ("GainsReckoner$Sheet", "proceeds", "[I", true)
  | 7 => ("GainsReckoner$Sheet", "pooledUnits", "[I", true)
  | 8 => ("GainsReckoner$Sheet", "pooledCost", "[I", true)
  | _ => ("GainsReckoner$Sheet", "size", "I", false)
def tyX3 : Nat → FieldType := fun k => match k with
  | 0 => .array .int
  | 1 => .array .int
  | 2 => .array .int
  | 3 => .array .int
  | 4 => .array .int
  | 5 => .array .int
  | 6 => .array .int
  | 7 => .array .int
  | 8 => .array .int
  | _ => .int
abbrev wsX30 : List Cond := u_ws RX3 TX3 10
theorem nmX3 : ∀ a, a < 10 → ∀ b, b < 10 → a ≠ b → (TX3 a).2.1 ≠ (TX3 b).2.1 := by decide +kernel
theorem tyX3_ok : ∀ k, k < 10 → parseFieldDescriptor (TX3 k).2.2.1 = some (tyX3 k) := by decide +kernel
abbrev cX3_init : ByteArray := prog_5_method_1_code
def yX3_init : MethodName := ⟨RX3, "<init>", "()V"⟩
abbrev cX3_fill : ByteArray := prog_5_method_2_code
def yX3_fill : MethodName := ⟨RX3, "fill", "(LGainsReckoner$Journal;ILGainsReckoner$Splits;)V"⟩
abbrev cX3_openRows : ByteArray := prog_5_method_3_code
def yX3_openRows : MethodName := ⟨RX3, "openRows", "(LGainsReckoner$Journal;I)V"⟩
abbrev cX3_openRow : ByteArray := prog_5_method_4_code
def yX3_openRow : MethodName := ⟨RX3, "openRow", "(I)V"⟩
abbrev cX3_addTrade : ByteArray := prog_5_method_5_code
def yX3_addTrade : MethodName := ⟨RX3, "addTrade", "(LGainsReckoner$Journal;II)V"⟩
abbrev cX3_setSameDaysAside : ByteArray := prog_5_method_6_code
def yX3_setSameDaysAside : MethodName := ⟨RX3, "setSameDaysAside", "()V"⟩
abbrev cX3_lastRowUpTo : ByteArray := prog_5_method_7_code
def yX3_lastRowUpTo : MethodName := ⟨RX3, "lastRowUpTo", "(I)I"⟩
abbrev cX3_leastUnitsFrom : ByteArray := prog_5_method_8_code
def yX3_leastUnitsFrom : MethodName := ⟨RX3, "leastUnitsFrom", "(I)I"⟩
abbrev cX3_costOfBuys : ByteArray := prog_5_method_9_code
def yX3_costOfBuys : MethodName := ⟨RX3, "costOfBuys", "()I"⟩
def RX4 : String := "GainsReckoner$Splits"
def TX4 : u_T := fun k => match k with
  | 0 => ("GainsReckoner$Splits", "day", "[I", true)
  | 1 => ("GainsReckoner$Splits", "factor", "[I", true)
  | _ => ("GainsReckoner$Splits", "size", "I", false)
def tyX4 : Nat → FieldType := fun k => match k with
  | 0 => .array .int
  | 1 => .array .int
  | _ => .int
abbrev wsX40 : List Cond := u_ws RX4 TX4 3
theorem nmX4 : ∀ a, a < 3 → ∀ b, b < 3 → a ≠ b → (TX4 a).2.1 ≠ (TX4 b).2.1 := by decide +kernel
theorem tyX4_ok : ∀ k, k < 3 → parseFieldDescriptor (TX4 k).2.2.1 = some (tyX4 k) := by decide +kernel
abbrev cX4_init : ByteArray := prog_6_method_1_code
def yX4_init : MethodName := ⟨RX4, "<init>", "()V"⟩
abbrev cX4_isFull : ByteArray := prog_6_method_2_code
def yX4_isFull : MethodName := ⟨RX4, "isFull", "()Z"⟩
abbrev cX4_hasDay : ByteArray := prog_6_method_3_code
def yX4_hasDay : MethodName := ⟨RX4, "hasDay", "(I)Z"⟩
abbrev cX4_enter : ByteArray := prog_6_method_4_code
def yX4_enter : MethodName := ⟨RX4, "enter", "(II)V"⟩
abbrev cX4_factorBetween : ByteArray := prog_6_method_5_code
def yX4_factorBetween : MethodName := ⟨RX4, "factorBetween", "(II)I"⟩
def RX5 : String := "GainsReckoner"
def TX5 : u_T := fun k => match k with
  | 0 => ("GainsReckoner", "journal", "LGainsReckoner$Journal;", true)
  | 1 => ("GainsReckoner", "ledgers", "[LGainsReckoner$Ledger;", true)
  | 2 => ("GainsReckoner", "allowances", "[I", true)
  | _ => ("GainsReckoner", "window", "I", false)
def tyX5 : Nat → FieldType := fun k => match k with
  | 0 => .object "GainsReckoner$Journal"
  | 1 => .array (.object "GainsReckoner$Ledger")
  | 2 => .array .int
  | _ => .int
abbrev wsX50 : List Cond := u_ws RX5 TX5 4
theorem nmX5 : ∀ a, a < 4 → ∀ b, b < 4 → a ≠ b → (TX5 a).2.1 ≠ (TX5 b).2.1 := by decide +kernel
theorem tyX5_ok : ∀ k, k < 4 → parseFieldDescriptor (TX5 k).2.2.1 = some (tyX5 k) := by decide +kernel
abbrev cX5_init : ByteArray := prog_1_method_1_code
def yX5_init : MethodName := ⟨RX5, "<init>", "()V"⟩
abbrev cX5_buy : ByteArray := prog_1_method_2_code
def yX5_buy : MethodName := ⟨RX5, "buy", "(IIII)I"⟩
abbrev cX5_sell : ByteArray := prog_1_method_3_code
def yX5_sell : MethodName := ⟨RX5, "sell", "(IIII)I"⟩
abbrev cX5_split : ByteArray := prog_1_method_4_code
def yX5_split : MethodName := ⟨RX5, "split", "(III)I"⟩
abbrev cX5_cancel : ByteArray := prog_1_method_5_code
def yX5_cancel : MethodName := ⟨RX5, "cancel", "(I)V"⟩
abbrev cX5_setAllowance : ByteArray := prog_1_method_6_code
def yX5_setAllowance : MethodName := ⟨RX5, "setAllowance", "(II)I"⟩
abbrev cX5_setWindow : ByteArray := prog_1_method_7_code
def yX5_setWindow : MethodName := ⟨RX5, "setWindow", "(I)I"⟩
abbrev cX5_trades : ByteArray := prog_1_method_8_code
def yX5_trades : MethodName := ⟨RX5, "trades", "()I"⟩
abbrev cX5_holding : ByteArray := prog_1_method_9_code
def yX5_holding : MethodName := ⟨RX5, "holding", "(II)I"⟩
abbrev cX5_poolUnits : ByteArray := prog_1_method_10_code
def yX5_poolUnits : MethodName := ⟨RX5, "poolUnits", "(II)I"⟩
abbrev cX5_poolCost : ByteArray := prog_1_method_11_code
def yX5_poolCost : MethodName := ⟨RX5, "poolCost", "(II)I"⟩
abbrev cX5_costIn : ByteArray := prog_1_method_12_code
def yX5_costIn : MethodName := ⟨RX5, "costIn", "(I)I"⟩
abbrev cX5_costMatched : ByteArray := prog_1_method_13_code
def yX5_costMatched : MethodName := ⟨RX5, "costMatched", "(I)I"⟩
abbrev cX5_matches : ByteArray := prog_1_method_14_code
def yX5_matches : MethodName := ⟨RX5, "matches", "(I)I"⟩
abbrev cX5_kindOf : ByteArray := prog_1_method_15_code
def yX5_kindOf : MethodName := ⟨RX5, "kindOf", "(II)I"⟩
abbrev cX5_saleDay : ByteArray := prog_1_method_16_code
def yX5_saleDay : MethodName := ⟨RX5, "saleDay", "(II)I"⟩
abbrev cX5_buyDay : ByteArray := prog_1_method_17_code
def yX5_buyDay : MethodName := ⟨RX5, "buyDay", "(II)I"⟩
abbrev cX5_unitsOf : ByteArray := prog_1_method_18_code
def yX5_unitsOf : MethodName := ⟨RX5, "unitsOf", "(II)I"⟩
abbrev cX5_costOf : ByteArray := prog_1_method_19_code
def yX5_costOf : MethodName := ⟨RX5, "costOf", "(II)I"⟩
abbrev cX5_proceedsOf : ByteArray := prog_1_method_20_code
def yX5_proceedsOf : MethodName := ⟨RX5, "proceedsOf", "(II)I"⟩
abbrev cX5_gain : ByteArray := prog_1_method_21_code
def yX5_gain : MethodName := ⟨RX5, "gain", "(II)I"⟩
abbrev cX5_net : ByteArray := prog_1_method_22_code
def yX5_net : MethodName := ⟨RX5, "net", "(I)I"⟩
abbrev cX5_carried : ByteArray := prog_1_method_23_code
def yX5_carried : MethodName := ⟨RX5, "carried", "(I)I"⟩
abbrev cX5_taxable : ByteArray := prog_1_method_24_code
def yX5_taxable : MethodName := ⟨RX5, "taxable", "(I)I"⟩
abbrev cX5_netOfYear : ByteArray := prog_1_method_25_code
def yX5_netOfYear : MethodName := ⟨RX5, "netOfYear", "(I)I"⟩
abbrev cX5_aboveAllowance : ByteArray := prog_1_method_26_code
def yX5_aboveAllowance : MethodName := ⟨RX5, "aboveAllowance", "(I)I"⟩
abbrev cX5_lossesOutOf : ByteArray := prog_1_method_27_code
def yX5_lossesOutOf : MethodName := ⟨RX5, "lossesOutOf", "(I)I"⟩
abbrev cX5_ledgerOf : ByteArray := prog_1_method_28_code
def yX5_ledgerOf : MethodName := ⟨RX5, "ledgerOf", "(I)LGainsReckoner$Ledger;"⟩
abbrev cX5_ledgerAt : ByteArray := prog_1_method_29_code
def yX5_ledgerAt : MethodName := ⟨RX5, "ledgerAt", "(II)LGainsReckoner$Ledger;"⟩
abbrev cX5_matchesWith : ByteArray := prog_1_method_30_code
def yX5_matchesWith : MethodName := ⟨RX5, "matchesWith", "(II)LGainsReckoner$Matches;"⟩
abbrev cX5_checkRoomForTrade : ByteArray := prog_1_method_31_code
def yX5_checkRoomForTrade : MethodName := ⟨RX5, "checkRoomForTrade", "()V"⟩
abbrev cX5_checkYear : ByteArray := prog_1_method_32_code
def yX5_checkYear : MethodName := ⟨RX5, "checkYear", "(I)V"⟩
abbrev cX5_checkTrade : ByteArray := prog_1_method_33_code
def yX5_checkTrade : MethodName := ⟨RX5, "checkTrade", "(II)V"⟩
abbrev cX5_checkMoney : ByteArray := prog_1_method_34_code
def yX5_checkMoney : MethodName := ⟨RX5, "checkMoney", "(I)V"⟩
abbrev cX5_checkCanSpare : ByteArray := prog_1_method_35_code
def yX5_checkCanSpare : MethodName := ⟨RX5, "checkCanSpare", "(LGainsReckoner$Ledger;II)V"⟩
abbrev cX5_part : ByteArray := prog_1_method_36_code
def yX5_part : MethodName := ⟨RX5, "part", "(IIII)I"⟩
def RX6 : String := "GainsReckonerModel"
def TX6 : u_T := fun k => match k with
  | 0 => ("GainsReckonerModel", "trades", "I", false)
  | 1 => ("GainsReckonerModel", "share", "[I", true)
  | 2 => ("GainsReckonerModel", "day", "[I", true)
  | 3 => ("GainsReckonerModel", "count", "[I", true)
  | 4 => ("GainsReckonerModel", "money", "[I", true)
  | 5 => ("GainsReckonerModel", "sale", "[Z", true)
  | 6 => ("GainsReckonerModel", "gone", "[Z", true)
  | 7 => ("GainsReckonerModel", "splits", "[I", true)
  | 8 => ("GainsReckonerModel", "splitDay", "[I", true)
  | 9 => ("GainsReckonerModel", "factor", "[I", true)
  | 10 => ("GainsReckonerModel", "allowance", "[I", true)
  | 11 => ("GainsReckonerModel", "window", "I", false)
  | 12 => ("GainsReckonerModel", "days", "I", false)
  | 13 => ("GainsReckonerModel", "date", "[I", true)
  | 14 => ("GainsReckonerModel", "bought", "[J", true)
  | 15 => ("GainsReckonerModel", "cost", "[J", true)
  | 16 => ("GainsReckonerModel", "sold", "[J", true)
  | 17 => ("GainsReckonerModel", "proceeds", "[J", true)
  | 18 => ("GainsReckonerModel", "buyLeft", "[J", true)
  | 19 => ("GainsReckonerModel", "saleLeft", "[J", true)
  | 20 => ("GainsReckonerModel", "units", "[J", true)
  | 21 => ("GainsReckonerModel", "value", "[J", true)
  | 22 => ("GainsReckonerModel", "made", "I", false)
  | 23 => ("GainsReckonerModel", "by", "[I", true)
  | 24 => ("GainsReckonerModel", "from", "[I", true)
  | 25 => ("GainsReckonerModel", "kind", "[I", true)
  | 26 => ("GainsReckonerModel", "many", "[J", true)
  | 27 => ("GainsReckonerModel", "matchCost", "[J", true)
  | 28 => ("GainsReckonerModel", "matchProceeds", "[J", true)
  | _ => ("GainsReckonerModel", "thrown", "I", false)
def tyX6 : Nat → FieldType := fun k => match k with
  | 0 => .int
  | 1 => .array .int
  | 2 => .array .int
  | 3 => .array .int
  | 4 => .array .int
  | 5 => .array .boolean
  | 6 => .array .boolean
  | 7 => .array .int
  | 8 => .array .int
  | 9 => .array .int
  | 10 => .array .int
  | 11 => .int
  | 12 => .int
  | 13 => .array .int
  | 14 => .array .long
  | 15 => .array .long
  | 16 => .array .long
  | 17 => .array .long
  | 18 => .array .long
  | 19 => .array .long
  | 20 => .array .long
  | 21 => .array .long
  | 22 => .int
  | 23 => .array .int
  | 24 => .array .int
  | 25 => .array .int
  | 26 => .array .long
  | 27 => .array .long
  | 28 => .array .long
  | _ => .int
abbrev wsX60 : List Cond := u_ws RX6 TX6 30
theorem nmX6 : ∀ a, a < 30 → ∀ b, b < 30 → a ≠ b → (TX6 a).2.1 ≠ (TX6 b).2.1 := by decide +kernel
theorem tyX6_ok : ∀ k, k < 30 → parseFieldDescriptor (TX6 k).2.2.1 = some (tyX6 k) := by decide +kernel
abbrev cX6_init : ByteArray := prog_8_method_1_code
def yX6_init : MethodName := ⟨RX6, "<init>", "()V"⟩
abbrev cX6_thrown : ByteArray := prog_8_method_2_code
def yX6_thrown : MethodName := ⟨RX6, "thrown", "()I"⟩
abbrev cX6_isIn : ByteArray := prog_8_method_3_code
def yX6_isIn : MethodName := ⟨RX6, "isIn", "(III)Z"⟩
abbrev cX6_isShare : ByteArray := prog_8_method_4_code
def yX6_isShare : MethodName := ⟨RX6, "isShare", "(I)Z"⟩
abbrev cX6_isDay : ByteArray := prog_8_method_5_code
def yX6_isDay : MethodName := ⟨RX6, "isDay", "(I)Z"⟩
abbrev cX6_later : ByteArray := prog_8_method_6_code
def yX6_later : MethodName := ⟨RX6, "later", "(II)I"⟩
abbrev cX6_held : ByteArray := prog_8_method_7_code
def yX6_held : MethodName := ⟨RX6, "held", "(II)J"⟩
abbrev cX6_isBelow : ByteArray := prog_8_method_8_code
def yX6_isBelow : MethodName := ⟨RX6, "isBelow", "(I)Z"⟩
abbrev cX6_enters : ByteArray := prog_8_method_9_code
def yX6_enters : MethodName := ⟨RX6, "enters", "(IIIIZ)I"⟩
abbrev cX6_buy : ByteArray := prog_8_method_10_code
def yX6_buy : MethodName := ⟨RX6, "buy", "(IIII)I"⟩
abbrev cX6_sell : ByteArray := prog_8_method_11_code
def yX6_sell : MethodName := ⟨RX6, "sell", "(IIII)I"⟩
abbrev cX6_split : ByteArray := prog_8_method_12_code
def yX6_split : MethodName := ⟨RX6, "split", "(III)I"⟩
abbrev cX6_cancel : ByteArray := prog_8_method_13_code
def yX6_cancel : MethodName := ⟨RX6, "cancel", "(I)V"⟩
abbrev cX6_setAllowance : ByteArray := prog_8_method_14_code
def yX6_setAllowance : MethodName := ⟨RX6, "setAllowance", "(II)I"⟩
abbrev cX6_setWindow : ByteArray := prog_8_method_15_code
def yX6_setWindow : MethodName := ⟨RX6, "setWindow", "(I)I"⟩
abbrev cX6_laysDays : ByteArray := prog_8_method_16_code
def yX6_laysDays : MethodName := ⟨RX6, "laysDays", "(I)V"⟩
abbrev cX6_part : ByteArray := prog_8_method_17_code
def yX6_part : MethodName := ⟨RX6, "part", "(JJJJ)J"⟩
abbrev cX6_pairs : ByteArray := prog_8_method_18_code
def yX6_pairs : MethodName := ⟨RX6, "pairs", "(III)V"⟩
abbrev cX6_pools : ByteArray := prog_8_method_19_code
def yX6_pools : MethodName := ⟨RX6, "pools", "()V"⟩
abbrev cX6_reckons : ByteArray := prog_8_method_20_code
def yX6_reckons : MethodName := ⟨RX6, "reckons", "(I)V"⟩
abbrev cX6_trades : ByteArray := prog_8_method_21_code
def yX6_trades : MethodName := ⟨RX6, "trades", "()I"⟩
abbrev cX6_asks : ByteArray := prog_8_method_22_code
def yX6_asks : MethodName := ⟨RX6, "asks", "(II)Z"⟩
abbrev cX6_holding : ByteArray := prog_8_method_23_code
def yX6_holding : MethodName := ⟨RX6, "holding", "(II)I"⟩
abbrev cX6_placeOf : ByteArray := prog_8_method_24_code
def yX6_placeOf : MethodName := ⟨RX6, "placeOf", "(I)I"⟩
abbrev cX6_poolUnits : ByteArray := prog_8_method_25_code
def yX6_poolUnits : MethodName := ⟨RX6, "poolUnits", "(II)I"⟩
abbrev cX6_poolCost : ByteArray := prog_8_method_26_code
def yX6_poolCost : MethodName := ⟨RX6, "poolCost", "(II)I"⟩
abbrev cX6_costIn : ByteArray := prog_8_method_27_code
def yX6_costIn : MethodName := ⟨RX6, "costIn", "(I)I"⟩
abbrev cX6_costMatched : ByteArray := prog_8_method_28_code
def yX6_costMatched : MethodName := ⟨RX6, "costMatched", "(I)I"⟩
abbrev cX6_matches : ByteArray := prog_8_method_29_code
def yX6_matches : MethodName := ⟨RX6, "matches", "(I)I"⟩
abbrev cX6_ahead : ByteArray := prog_8_method_30_code
def yX6_ahead : MethodName := ⟨RX6, "ahead", "(I)I"⟩
abbrev cX6_found : ByteArray := prog_8_method_31_code
def yX6_found : MethodName := ⟨RX6, "found", "(II)I"⟩
abbrev cX6_kindOf : ByteArray := prog_8_method_32_code
def yX6_kindOf : MethodName := ⟨RX6, "kindOf", "(II)I"⟩
abbrev cX6_saleDay : ByteArray := prog_8_method_33_code
def yX6_saleDay : MethodName := ⟨RX6, "saleDay", "(II)I"⟩
abbrev cX6_buyDay : ByteArray := prog_8_method_34_code
def yX6_buyDay : MethodName := ⟨RX6, "buyDay", "(II)I"⟩
abbrev cX6_unitsOf : ByteArray := prog_8_method_35_code
def yX6_unitsOf : MethodName := ⟨RX6, "unitsOf", "(II)I"⟩
abbrev cX6_costOf : ByteArray := prog_8_method_36_code
def yX6_costOf : MethodName := ⟨RX6, "costOf", "(II)I"⟩
abbrev cX6_proceedsOf : ByteArray := prog_8_method_37_code
def yX6_proceedsOf : MethodName := ⟨RX6, "proceedsOf", "(II)I"⟩
abbrev cX6_gained : ByteArray := prog_8_method_38_code
def yX6_gained : MethodName := ⟨RX6, "gained", "(II)I"⟩
abbrev cX6_gain : ByteArray := prog_8_method_39_code
def yX6_gain : MethodName := ⟨RX6, "gain", "(II)I"⟩
abbrev cX6_netOf : ByteArray := prog_8_method_40_code
def yX6_netOf : MethodName := ⟨RX6, "netOf", "(I)I"⟩
abbrev cX6_isYear : ByteArray := prog_8_method_41_code
def yX6_isYear : MethodName := ⟨RX6, "isYear", "(I)Z"⟩
abbrev cX6_net : ByteArray := prog_8_method_42_code
def yX6_net : MethodName := ⟨RX6, "net", "(I)I"⟩
abbrev cX6_above : ByteArray := prog_8_method_43_code
def yX6_above : MethodName := ⟨RX6, "above", "(I)I"⟩
abbrev cX6_into : ByteArray := prog_8_method_44_code
def yX6_into : MethodName := ⟨RX6, "into", "(I)I"⟩
abbrev cX6_carried : ByteArray := prog_8_method_45_code
def yX6_carried : MethodName := ⟨RX6, "carried", "(I)I"⟩
abbrev cX6_taxable : ByteArray := prog_8_method_46_code
def yX6_taxable : MethodName := ⟨RX6, "taxable", "(I)I"⟩
def RJ9 : String := "java/lang/Math"
def TJ9 : u_T := fun k => match k with
  | _ => ("", "", "", false)
def tyJ9 : Nat → FieldType := fun k => match k with
  | _ => .int
abbrev wsJ90 : List Cond := u_ws RJ9 TJ9 0
theorem nmJ9 : ∀ a, a < 0 → ∀ b, b < 0 → a ≠ b → (TJ9 a).2.1 ≠ (TJ9 b).2.1 := by decide +kernel
theorem tyJ9_ok : ∀ k, k < 0 → parseFieldDescriptor (TJ9 k).2.2.1 = some (tyJ9 k) := by decide +kernel
abbrev cJ9_max_7cf53 : ByteArray := prog_13_method_65_code
def yJ9_max_7cf53 : MethodName := ⟨RJ9, "max", "(II)I"⟩
abbrev cJ9_min_7cf53 : ByteArray := prog_13_method_69_code
def yJ9_min_7cf53 : MethodName := ⟨RJ9, "min", "(II)I"⟩
def RJ0 : String := "java/lang/String"
def TJ0 : u_T := fun k => match k with
  | _ => ("", "", "", false)
def tyJ0 : Nat → FieldType := fun k => match k with
  | _ => .int
abbrev wsJ00 : List Cond := u_ws RJ0 TJ0 0
theorem nmJ0 : ∀ a, a < 0 → ∀ b, b < 0 → a ≠ b → (TJ0 a).2.1 ≠ (TJ0 b).2.1 := by decide +kernel
theorem tyJ0_ok : ∀ k, k < 0 → parseFieldDescriptor (TJ0 k).2.2.1 = some (tyJ0 k) := by decide +kernel
def RL : String := "GainsReckonerLaw"
abbrev cL_buy : ByteArray := method_3_code
def yL_buy : MethodName := ⟨RL, "buy", "(LGainsReckoner;IIII[J)I"⟩
abbrev cL_sell : ByteArray := method_4_code
def yL_sell : MethodName := ⟨RL, "sell", "(LGainsReckoner;IIII[J)I"⟩
abbrev cL_split : ByteArray := method_5_code
def yL_split : MethodName := ⟨RL, "split", "(LGainsReckoner;III[J)I"⟩
abbrev cL_cancel : ByteArray := method_6_code
def yL_cancel : MethodName := ⟨RL, "cancel", "(LGainsReckoner;I)I"⟩
abbrev cL_setAllowance : ByteArray := method_7_code
def yL_setAllowance : MethodName := ⟨RL, "setAllowance", "(LGainsReckoner;II[J)I"⟩
abbrev cL_setWindow : ByteArray := method_8_code
def yL_setWindow : MethodName := ⟨RL, "setWindow", "(LGainsReckoner;I[J)I"⟩
abbrev cL_holding : ByteArray := method_9_code
def yL_holding : MethodName := ⟨RL, "holding", "(LGainsReckoner;II[J)I"⟩
abbrev cL_poolUnits : ByteArray := method_10_code
def yL_poolUnits : MethodName := ⟨RL, "poolUnits", "(LGainsReckoner;II[J)I"⟩
abbrev cL_poolCost : ByteArray := method_11_code
def yL_poolCost : MethodName := ⟨RL, "poolCost", "(LGainsReckoner;II[J)I"⟩
abbrev cL_costIn : ByteArray := method_12_code
def yL_costIn : MethodName := ⟨RL, "costIn", "(LGainsReckoner;I[J)I"⟩
abbrev cL_costMatched : ByteArray := method_13_code
def yL_costMatched : MethodName := ⟨RL, "costMatched", "(LGainsReckoner;I[J)I"⟩
abbrev cL_matches : ByteArray := method_14_code
def yL_matches : MethodName := ⟨RL, "matches", "(LGainsReckoner;I[J)I"⟩
abbrev cL_kindOf : ByteArray := method_15_code
def yL_kindOf : MethodName := ⟨RL, "kindOf", "(LGainsReckoner;II[J)I"⟩
abbrev cL_saleDay : ByteArray := method_16_code
def yL_saleDay : MethodName := ⟨RL, "saleDay", "(LGainsReckoner;II[J)I"⟩
abbrev cL_buyDay : ByteArray := method_17_code
def yL_buyDay : MethodName := ⟨RL, "buyDay", "(LGainsReckoner;II[J)I"⟩
abbrev cL_unitsOf : ByteArray := method_18_code
def yL_unitsOf : MethodName := ⟨RL, "unitsOf", "(LGainsReckoner;II[J)I"⟩
abbrev cL_costOf : ByteArray := method_19_code
def yL_costOf : MethodName := ⟨RL, "costOf", "(LGainsReckoner;II[J)I"⟩
abbrev cL_proceedsOf : ByteArray := method_20_code
def yL_proceedsOf : MethodName := ⟨RL, "proceedsOf", "(LGainsReckoner;II[J)I"⟩
abbrev cL_gain : ByteArray := method_21_code
def yL_gain : MethodName := ⟨RL, "gain", "(LGainsReckoner;II[J)I"⟩
abbrev cL_net : ByteArray := method_22_code
def yL_net : MethodName := ⟨RL, "net", "(LGainsReckoner;I[J)I"⟩
abbrev cL_carried : ByteArray := method_23_code
def yL_carried : MethodName := ⟨RL, "carried", "(LGainsReckoner;I[J)I"⟩
abbrev cL_taxable : ByteArray := method_24_code
def yL_taxable : MethodName := ⟨RL, "taxable", "(LGainsReckoner;I[J)I"⟩
abbrev cL_law : ByteArray := code
def yL_law : MethodName := ⟨RL, "law", "([I)Z"⟩
def wsX0_init : List Cond := .code yX0_init cX0_init 1 none :: ([.methodLink RX0 3 objectInit, .instanceMethod objectInit, .code objectInit ⟨#[0xb1]⟩ 1 none, .arrayClass .boolean, .fieldLink RX0 9 "GainsReckoner$Journal" "sale" "[Z", .fieldLink RX0 15 "GainsReckoner$Journal" "cancelled" "[Z", .arrayClass .int, .fieldLink RX0 18 "GainsReckoner$Journal" "share" "[I", .fieldLink RX0 22 "GainsReckoner$Journal" "day" "[I", .fieldLink RX0 25 "GainsReckoner$Journal" "count" "[I", .fieldLink RX0 28 "GainsReckoner$Journal" "money" "[I", .fieldLink RX0 31 "GainsReckoner$Journal" "size" "I"] ++ wsX00)
def wsX0_isFull : List Cond := .code yX0_isFull cX0_isFull 1 (some .boolean) :: ([.fieldLink RX0 31 "GainsReckoner$Journal" "size" "I"] ++ wsX00)
def wsX0_enter : List Cond := .code yX0_enter cX0_enter 7 (some .int) :: ([.fieldLink RX0 31 "GainsReckoner$Journal" "size" "I", .fieldLink RX0 9 "GainsReckoner$Journal" "sale" "[Z", .fieldLink RX0 18 "GainsReckoner$Journal" "share" "[I", .fieldLink RX0 22 "GainsReckoner$Journal" "day" "[I", .fieldLink RX0 25 "GainsReckoner$Journal" "count" "[I", .fieldLink RX0 28 "GainsReckoner$Journal" "money" "[I", .methodLink RX0 35 yX0_isFull, .instanceMethod yX0_isFull, .selects RX0 yX0_isFull yX0_isFull, .initialized RX0, .code yX0_isFull cX0_isFull 1 (some .boolean)] ++ wsX00)
def wsX0_counts : List Cond := .code yX0_counts cX0_counts 3 (some .boolean) :: ([.fieldLink RX0 18 "GainsReckoner$Journal" "share" "[I", .fieldLink RX0 15 "GainsReckoner$Journal" "cancelled" "[Z"] ++ wsX00)
def wsX4_init : List Cond := .code yX4_init cX4_init 1 none :: ([.methodLink RX4 3 objectInit, .instanceMethod objectInit, .code objectInit ⟨#[0xb1]⟩ 1 none, .arrayClass .int, .fieldLink RX4 9 "GainsReckoner$Splits" "day" "[I", .fieldLink RX4 15 "GainsReckoner$Splits" "factor" "[I", .fieldLink RX4 18 "GainsReckoner$Splits" "size" "I"] ++ wsX40)
def wsX3_init : List Cond := .code yX3_init cX3_init 1 none :: ([.methodLink RX3 3 objectInit, .instanceMethod objectInit, .code objectInit ⟨#[0xb1]⟩ 1 none, .arrayClass .int, .fieldLink RX3 9 "GainsReckoner$Sheet" "day" "[I", .fieldLink RX3 15 "GainsReckoner$Sheet" "bought" "[I", .fieldLink RX3 18 "GainsReckoner$Sheet" "boughtGone" "[I", .fieldLink RX3 21 "GainsReckoner$Sheet" "cost" "[I", .fieldLink RX3 24 "GainsReckoner$Sheet" "sold" "[I", .fieldLink RX3 27 "GainsReckoner$Sheet" "soldGone" "[I", .fieldLink RX3 30 "GainsReckoner$Sheet" "proceeds" "[I", .fieldLink RX3 33 "GainsReckoner$Sheet" "pooledUnits" "[I", .fieldLink RX3 36 "GainsReckoner$Sheet" "pooledCost" "[I", .fieldLink RX3 39 "GainsReckoner$Sheet" "size" "I"] ++ wsX30)
def wsX2_init : List Cond := .code yX2_init cX2_init 1 none :: ([.methodLink RX2 3 objectInit, .instanceMethod objectInit, .code objectInit ⟨#[0xb1]⟩ 1 none, .arrayClass .int, .fieldLink RX2 9 "GainsReckoner$Matches" "kind" "[I", .fieldLink RX2 15 "GainsReckoner$Matches" "soldOn" "[I", .fieldLink RX2 18 "GainsReckoner$Matches" "boughtOn" "[I", .fieldLink RX2 21 "GainsReckoner$Matches" "units" "[I", .fieldLink RX2 24 "GainsReckoner$Matches" "cost" "[I", .fieldLink RX2 27 "GainsReckoner$Matches" "proceeds" "[I", .fieldLink RX2 30 "GainsReckoner$Matches" "size" "I"] ++ wsX20)
def wsX1_init_r1 : List Cond := [Cond.methodLink RX1 3 objectInit, Cond.instanceMethod objectInit, Cond.code objectInit ⟨#[0xb1]⟩ 1 none, Cond.classLink RX1 9 RX4, Cond.instantiable RX4 3, Cond.initialized RX4, Cond.fieldLink RX1 12 "GainsReckoner$Ledger" "splits" "LGainsReckoner$Splits;", Cond.classLink RX1 18 RX3, Cond.instantiable RX3 10, Cond.initialized RX3, Cond.fieldLink RX1 21 "GainsReckoner$Ledger" "sheet" "LGainsReckoner$Sheet;", Cond.classLink RX1 25 RX2, Cond.instantiable RX2 7, Cond.initialized RX2, Cond.fieldLink RX1 28 "GainsReckoner$Ledger" "matched" "LGainsReckoner$Matches;", Cond.fieldLink RX1 32 "GainsReckoner$Ledger" "share" "I", Cond.instanceMethod yX4_init, Cond.code yX4_init cX4_init 1 none, Cond.methodLink RX4 3 objectInit, Cond.arrayClass .int, Cond.fieldLink RX4 9 "GainsReckoner$Splits" "day" "[I", Cond.fieldLink RX4 15 "GainsReckoner$Splits" "factor" "[I", Cond.fieldLink RX4 18 "GainsReckoner$Splits" "size" "I", Cond.instanceMethod yX3_init]
def wsX1_init_r2 : List Cond := [Cond.code yX3_init cX3_init 1 none, Cond.methodLink RX3 3 objectInit, Cond.fieldLink RX3 9 "GainsReckoner$Sheet" "day" "[I", Cond.fieldLink RX3 15 "GainsReckoner$Sheet" "bought" "[I", Cond.fieldLink RX3 18 "GainsReckoner$Sheet" "boughtGone" "[I", Cond.fieldLink RX3 21 "GainsReckoner$Sheet" "cost" "[I", Cond.fieldLink RX3 24 "GainsReckoner$Sheet" "sold" "[I", Cond.fieldLink RX3 27 "GainsReckoner$Sheet" "soldGone" "[I", Cond.fieldLink RX3 30 "GainsReckoner$Sheet" "proceeds" "[I", Cond.fieldLink RX3 33 "GainsReckoner$Sheet" "pooledUnits" "[I", Cond.fieldLink RX3 36 "GainsReckoner$Sheet" "pooledCost" "[I", Cond.fieldLink RX3 39 "GainsReckoner$Sheet" "size" "I", Cond.instanceMethod yX2_init, Cond.code yX2_init cX2_init 1 none, Cond.methodLink RX2 3 objectInit, Cond.fieldLink RX2 9 "GainsReckoner$Matches" "kind" "[I", Cond.fieldLink RX2 15 "GainsReckoner$Matches" "soldOn" "[I", Cond.fieldLink RX2 18 "GainsReckoner$Matches" "boughtOn" "[I", Cond.fieldLink RX2 21 "GainsReckoner$Matches" "units" "[I", Cond.fieldLink RX2 24 "GainsReckoner$Matches" "cost" "[I", Cond.fieldLink RX2 27 "GainsReckoner$Matches" "proceeds" "[I", Cond.fieldLink RX2 30 "GainsReckoner$Matches" "size" "I"]
def wsX1_init : List Cond := .code yX1_init cX1_init 2 none :: ((wsX1_init_r1 ++ wsX1_init_r2) ++ wsX40 ++ wsX10 ++ wsX30 ++ wsX20)
def wsX3_lastRowUpTo : List Cond := .code yX3_lastRowUpTo cX3_lastRowUpTo 4 (some .int) :: ([.fieldLink RX3 39 "GainsReckoner$Sheet" "size" "I", .fieldLink RX3 9 "GainsReckoner$Sheet" "day" "[I"] ++ wsX30)
def wsX3_openRow : List Cond := .code yX3_openRow cX3_openRow 4 none :: ([.fieldLink RX3 39 "GainsReckoner$Sheet" "size" "I", .fieldLink RX3 9 "GainsReckoner$Sheet" "day" "[I", .methodLink RX3 75 yX3_lastRowUpTo, .instanceMethod yX3_lastRowUpTo, .selects RX3 yX3_lastRowUpTo yX3_lastRowUpTo, .initialized RX3, .code yX3_lastRowUpTo cX3_lastRowUpTo 4 (some .int)] ++ wsX30)
def wsX3_openRows : List Cond := .code yX3_openRows cX3_openRows 4 none :: ([.fieldLink RX3 39 "GainsReckoner$Sheet" "size" "I", .fieldLink RX3 15 "GainsReckoner$Sheet" "bought" "[I", .fieldLink RX3 21 "GainsReckoner$Sheet" "cost" "[I", .fieldLink RX3 24 "GainsReckoner$Sheet" "sold" "[I", .fieldLink RX3 30 "GainsReckoner$Sheet" "proceeds" "[I", .methodLink RX3 50 yX0_counts, .instanceMethod yX0_counts, .selects RX0 yX0_counts yX0_counts, .initialized RX0, .code yX0_counts cX0_counts 3 (some .boolean), .fieldLink RX0 18 "GainsReckoner$Journal" "share" "[I", .fieldLink RX0 15 "GainsReckoner$Journal" "cancelled" "[Z", .methodLink RX3 71 yX3_openRow, .instanceMethod yX3_openRow, .selects RX3 yX3_openRow yX3_openRow, .initialized RX3, .code yX3_openRow cX3_openRow 4 none, .fieldLink RX3 9 "GainsReckoner$Sheet" "day" "[I", .methodLink RX3 75 yX3_lastRowUpTo, .instanceMethod yX3_lastRowUpTo, .selects RX3 yX3_lastRowUpTo yX3_lastRowUpTo, .code yX3_lastRowUpTo cX3_lastRowUpTo 4 (some .int)] ++ wsX30 ++ wsX00)
def wsX4_factorBetween : List Cond := .code yX4_factorBetween cX4_factorBetween 5 (some .int) :: ([.fieldLink RX4 18 "GainsReckoner$Splits" "size" "I", .fieldLink RX4 9 "GainsReckoner$Splits" "day" "[I", .fieldLink RX4 15 "GainsReckoner$Splits" "factor" "[I"] ++ wsX40)
def wsX3_addTrade : List Cond := .code yX3_addTrade cX3_addTrade 5 none :: ([.fieldLink RX3 24 "GainsReckoner$Sheet" "sold" "[I", .fieldLink RX3 30 "GainsReckoner$Sheet" "proceeds" "[I", .fieldLink RX3 15 "GainsReckoner$Sheet" "bought" "[I", .fieldLink RX3 21 "GainsReckoner$Sheet" "cost" "[I", .methodLink RX3 75 yX3_lastRowUpTo, .instanceMethod yX3_lastRowUpTo, .selects RX3 yX3_lastRowUpTo yX3_lastRowUpTo, .initialized RX3, .code yX3_lastRowUpTo cX3_lastRowUpTo 4 (some .int), .fieldLink RX3 39 "GainsReckoner$Sheet" "size" "I", .fieldLink RX3 9 "GainsReckoner$Sheet" "day" "[I"] ++ wsX00 ++ wsX30)
def wsX3_setSameDaysAside : List Cond := .code yX3_setSameDaysAside cX3_setSameDaysAside 3 none :: ([.fieldLink RX3 39 "GainsReckoner$Sheet" "size" "I", .fieldLink RX3 15 "GainsReckoner$Sheet" "bought" "[I", .fieldLink RX3 24 "GainsReckoner$Sheet" "sold" "[I", .methodLink RX3 86 Lib.Math.min.name, .static Lib.Math.min.name, .initialized "java/lang/Math", .code Lib.Math.min.name Lib.Math.min.code 2 (some .int), .fieldLink RX3 18 "GainsReckoner$Sheet" "boughtGone" "[I", .fieldLink RX3 27 "GainsReckoner$Sheet" "soldGone" "[I"] ++ wsX30)
def wsX3_fill_r1 : List Cond := [Cond.methodLink RX3 43 yX3_openRows, Cond.instanceMethod yX3_openRows, Cond.selects RX3 yX3_openRows yX3_openRows, Cond.initialized RX3, Cond.code yX3_openRows cX3_openRows 4 none, Cond.fieldLink RX3 39 "GainsReckoner$Sheet" "size" "I", Cond.fieldLink RX3 15 "GainsReckoner$Sheet" "bought" "[I", Cond.fieldLink RX3 21 "GainsReckoner$Sheet" "cost" "[I", Cond.fieldLink RX3 24 "GainsReckoner$Sheet" "sold" "[I", Cond.fieldLink RX3 30 "GainsReckoner$Sheet" "proceeds" "[I", Cond.methodLink RX3 50 yX0_counts, Cond.instanceMethod yX0_counts, Cond.selects RX0 yX0_counts yX0_counts, Cond.initialized RX0, Cond.code yX0_counts cX0_counts 3 (some .boolean), Cond.fieldLink RX0 18 "GainsReckoner$Journal" "share" "[I", Cond.fieldLink RX0 15 "GainsReckoner$Journal" "cancelled" "[Z", Cond.methodLink RX3 71 yX3_openRow, Cond.instanceMethod yX3_openRow, Cond.selects RX3 yX3_openRow yX3_openRow, Cond.code yX3_openRow cX3_openRow 4 none, Cond.fieldLink RX3 9 "GainsReckoner$Sheet" "day" "[I", Cond.methodLink RX3 75 yX3_lastRowUpTo, Cond.instanceMethod yX3_lastRowUpTo]
def wsX3_fill_r2 : List Cond := [Cond.selects RX3 yX3_lastRowUpTo yX3_lastRowUpTo, Cond.code yX3_lastRowUpTo cX3_lastRowUpTo 4 (some .int), Cond.methodLink RX3 58 yX4_factorBetween, Cond.instanceMethod yX4_factorBetween, Cond.selects RX4 yX4_factorBetween yX4_factorBetween, Cond.initialized RX4, Cond.code yX4_factorBetween cX4_factorBetween 5 (some .int), Cond.fieldLink RX4 18 "GainsReckoner$Splits" "size" "I", Cond.fieldLink RX4 9 "GainsReckoner$Splits" "day" "[I", Cond.fieldLink RX4 15 "GainsReckoner$Splits" "factor" "[I", Cond.methodLink RX3 64 yX3_addTrade, Cond.instanceMethod yX3_addTrade, Cond.selects RX3 yX3_addTrade yX3_addTrade, Cond.code yX3_addTrade cX3_addTrade 5 none, Cond.methodLink RX3 68 yX3_setSameDaysAside, Cond.instanceMethod yX3_setSameDaysAside, Cond.selects RX3 yX3_setSameDaysAside yX3_setSameDaysAside, Cond.code yX3_setSameDaysAside cX3_setSameDaysAside 3 none, Cond.methodLink RX3 86 Lib.Math.min.name, Cond.static Lib.Math.min.name, Cond.initialized "java/lang/Math", Cond.code Lib.Math.min.name Lib.Math.min.code 2 (some .int), Cond.fieldLink RX3 18 "GainsReckoner$Sheet" "boughtGone" "[I", Cond.fieldLink RX3 27 "GainsReckoner$Sheet" "soldGone" "[I"]
def wsX3_fill : List Cond := .code yX3_fill cX3_fill 6 none :: ((wsX3_fill_r1 ++ wsX3_fill_r2) ++ wsX00 ++ wsX30 ++ wsX40)
def wsX5_part : List Cond := .code yX5_part cX5_part 4 (some .int) :: ([])
def wsX2_add : List Cond := .code yX2_add cX2_add 7 none :: ([.fieldLink RX2 30 "GainsReckoner$Matches" "size" "I", .fieldLink RX2 9 "GainsReckoner$Matches" "kind" "[I", .fieldLink RX2 15 "GainsReckoner$Matches" "soldOn" "[I", .fieldLink RX2 18 "GainsReckoner$Matches" "boughtOn" "[I", .fieldLink RX2 21 "GainsReckoner$Matches" "units" "[I", .fieldLink RX2 24 "GainsReckoner$Matches" "cost" "[I", .fieldLink RX2 27 "GainsReckoner$Matches" "proceeds" "[I"] ++ wsX20)
def wsX1_matchSameDay : List Cond := .code yX1_matchSameDay cX1_matchSameDay 5 none :: ([.fieldLink RX1 21 "GainsReckoner$Ledger" "sheet" "LGainsReckoner$Sheet;", .methodLink RX1 83 Lib.Math.min.name, .static Lib.Math.min.name, .initialized "java/lang/Math", .code Lib.Math.min.name Lib.Math.min.code 2 (some .int), .fieldLink RX1 28 "GainsReckoner$Ledger" "matched" "LGainsReckoner$Matches;", .static yX5_part, .initialized RX5, .code yX5_part cX5_part 4 (some .int), .methodLink RX1 99 yX2_add, .instanceMethod yX2_add, .selects RX2 yX2_add yX2_add, .initialized RX2, .code yX2_add cX2_add 7 none, .fieldLink RX2 30 "GainsReckoner$Matches" "size" "I", .fieldLink RX2 9 "GainsReckoner$Matches" "kind" "[I", .fieldLink RX2 15 "GainsReckoner$Matches" "soldOn" "[I", .fieldLink RX2 18 "GainsReckoner$Matches" "boughtOn" "[I", .fieldLink RX2 21 "GainsReckoner$Matches" "units" "[I", .fieldLink RX2 24 "GainsReckoner$Matches" "cost" "[I", .fieldLink RX2 27 "GainsReckoner$Matches" "proceeds" "[I"] ++ wsX10 ++ wsX30 ++ wsX20)
def wsX1_takeBought : List Cond := .code yX1_takeBought cX1_takeBought 4 (some .int) :: ([.fieldLink RX1 21 "GainsReckoner$Ledger" "sheet" "LGainsReckoner$Sheet;", .static yX5_part, .initialized RX5, .code yX5_part cX5_part 4 (some .int)] ++ wsX10 ++ wsX30)
def wsX1_takeSold : List Cond := .code yX1_takeSold cX1_takeSold 4 (some .int) :: ([.fieldLink RX1 21 "GainsReckoner$Ledger" "sheet" "LGainsReckoner$Sheet;", .static yX5_part, .initialized RX5, .code yX5_part cX5_part 4 (some .int)] ++ wsX10 ++ wsX30)
def wsX1_matchLaterDays_r1 : List Cond := [Cond.fieldLink RX1 21 "GainsReckoner$Ledger" "sheet" "LGainsReckoner$Sheet;", Cond.methodLink RX1 83 Lib.Math.min.name, Cond.static Lib.Math.min.name, Cond.initialized "java/lang/Math", Cond.code Lib.Math.min.name Lib.Math.min.code 2 (some .int), Cond.fieldLink RX1 28 "GainsReckoner$Ledger" "matched" "LGainsReckoner$Matches;", Cond.methodLink RX1 109 yX1_takeBought, Cond.instanceMethod yX1_takeBought, Cond.selects RX1 yX1_takeBought yX1_takeBought, Cond.initialized RX1, Cond.code yX1_takeBought cX1_takeBought 4 (some .int), Cond.static yX5_part, Cond.initialized RX5, Cond.code yX5_part cX5_part 4 (some .int), Cond.methodLink RX1 112 yX1_takeSold, Cond.instanceMethod yX1_takeSold, Cond.selects RX1 yX1_takeSold yX1_takeSold, Cond.code yX1_takeSold cX1_takeSold 4 (some .int), Cond.methodLink RX1 99 yX2_add, Cond.instanceMethod yX2_add, Cond.selects RX2 yX2_add yX2_add, Cond.initialized RX2, Cond.code yX2_add cX2_add 7 none, Cond.fieldLink RX2 30 "GainsReckoner$Matches" "size" "I"]
def wsX1_matchLaterDays_r2 : List Cond := [Cond.fieldLink RX2 9 "GainsReckoner$Matches" "kind" "[I", Cond.fieldLink RX2 15 "GainsReckoner$Matches" "soldOn" "[I", Cond.fieldLink RX2 18 "GainsReckoner$Matches" "boughtOn" "[I", Cond.fieldLink RX2 21 "GainsReckoner$Matches" "units" "[I", Cond.fieldLink RX2 24 "GainsReckoner$Matches" "cost" "[I", Cond.fieldLink RX2 27 "GainsReckoner$Matches" "proceeds" "[I"]
def wsX1_matchLaterDays : List Cond := .code yX1_matchLaterDays cX1_matchLaterDays 9 none :: ((wsX1_matchLaterDays_r1 ++ wsX1_matchLaterDays_r2) ++ wsX10 ++ wsX30 ++ wsX20)
def wsX1_pool_r1 : List Cond := [Cond.fieldLink RX1 21 "GainsReckoner$Ledger" "sheet" "LGainsReckoner$Sheet;", Cond.fieldLink RX1 28 "GainsReckoner$Ledger" "matched" "LGainsReckoner$Matches;", Cond.methodLink RX1 109 yX1_takeBought, Cond.instanceMethod yX1_takeBought, Cond.selects RX1 yX1_takeBought yX1_takeBought, Cond.initialized RX1, Cond.code yX1_takeBought cX1_takeBought 4 (some .int), Cond.static yX5_part, Cond.initialized RX5, Cond.code yX5_part cX5_part 4 (some .int), Cond.methodLink RX1 112 yX1_takeSold, Cond.instanceMethod yX1_takeSold, Cond.selects RX1 yX1_takeSold yX1_takeSold, Cond.code yX1_takeSold cX1_takeSold 4 (some .int), Cond.methodLink RX1 99 yX2_add, Cond.instanceMethod yX2_add, Cond.selects RX2 yX2_add yX2_add, Cond.initialized RX2, Cond.code yX2_add cX2_add 7 none, Cond.fieldLink RX2 30 "GainsReckoner$Matches" "size" "I", Cond.fieldLink RX2 9 "GainsReckoner$Matches" "kind" "[I", Cond.fieldLink RX2 15 "GainsReckoner$Matches" "soldOn" "[I", Cond.fieldLink RX2 18 "GainsReckoner$Matches" "boughtOn" "[I", Cond.fieldLink RX2 21 "GainsReckoner$Matches" "units" "[I"]
def wsX1_pool_r2 : List Cond := [Cond.fieldLink RX2 24 "GainsReckoner$Matches" "cost" "[I", Cond.fieldLink RX2 27 "GainsReckoner$Matches" "proceeds" "[I"]
def wsX1_pool : List Cond := .code yX1_pool cX1_pool 7 none :: ((wsX1_pool_r1 ++ wsX1_pool_r2) ++ wsX10 ++ wsX30 ++ wsX20)
def wsX1_reckon_r1 : List Cond := [Cond.fieldLink RX1 21 "GainsReckoner$Ledger" "sheet" "LGainsReckoner$Sheet;", Cond.fieldLink RX1 32 "GainsReckoner$Ledger" "share" "I", Cond.fieldLink RX1 12 "GainsReckoner$Ledger" "splits" "LGainsReckoner$Splits;", Cond.fieldLink RX1 28 "GainsReckoner$Ledger" "matched" "LGainsReckoner$Matches;", Cond.methodLink RX1 36 yX3_fill, Cond.instanceMethod yX3_fill, Cond.selects RX3 yX3_fill yX3_fill, Cond.initialized RX3, Cond.code yX3_fill cX3_fill 6 none, Cond.methodLink RX3 43 yX3_openRows, Cond.instanceMethod yX3_openRows, Cond.selects RX3 yX3_openRows yX3_openRows, Cond.code yX3_openRows cX3_openRows 4 none, Cond.fieldLink RX3 39 "GainsReckoner$Sheet" "size" "I", Cond.fieldLink RX3 15 "GainsReckoner$Sheet" "bought" "[I", Cond.fieldLink RX3 21 "GainsReckoner$Sheet" "cost" "[I", Cond.fieldLink RX3 24 "GainsReckoner$Sheet" "sold" "[I", Cond.fieldLink RX3 30 "GainsReckoner$Sheet" "proceeds" "[I", Cond.methodLink RX3 50 yX0_counts, Cond.instanceMethod yX0_counts, Cond.selects RX0 yX0_counts yX0_counts, Cond.initialized RX0, Cond.code yX0_counts cX0_counts 3 (some .boolean), Cond.fieldLink RX0 18 "GainsReckoner$Journal" "share" "[I"]
def wsX1_reckon_r2 : List Cond := [Cond.fieldLink RX0 15 "GainsReckoner$Journal" "cancelled" "[Z", Cond.methodLink RX3 71 yX3_openRow, Cond.instanceMethod yX3_openRow, Cond.selects RX3 yX3_openRow yX3_openRow, Cond.code yX3_openRow cX3_openRow 4 none, Cond.fieldLink RX3 9 "GainsReckoner$Sheet" "day" "[I", Cond.methodLink RX3 75 yX3_lastRowUpTo, Cond.instanceMethod yX3_lastRowUpTo, Cond.selects RX3 yX3_lastRowUpTo yX3_lastRowUpTo, Cond.code yX3_lastRowUpTo cX3_lastRowUpTo 4 (some .int), Cond.methodLink RX3 58 yX4_factorBetween, Cond.instanceMethod yX4_factorBetween, Cond.selects RX4 yX4_factorBetween yX4_factorBetween, Cond.initialized RX4, Cond.code yX4_factorBetween cX4_factorBetween 5 (some .int), Cond.fieldLink RX4 18 "GainsReckoner$Splits" "size" "I", Cond.fieldLink RX4 9 "GainsReckoner$Splits" "day" "[I", Cond.fieldLink RX4 15 "GainsReckoner$Splits" "factor" "[I", Cond.methodLink RX3 64 yX3_addTrade, Cond.instanceMethod yX3_addTrade, Cond.selects RX3 yX3_addTrade yX3_addTrade, Cond.code yX3_addTrade cX3_addTrade 5 none, Cond.methodLink RX3 68 yX3_setSameDaysAside, Cond.instanceMethod yX3_setSameDaysAside]
def wsX1_reckon_r3 : List Cond := [Cond.selects RX3 yX3_setSameDaysAside yX3_setSameDaysAside, Cond.code yX3_setSameDaysAside cX3_setSameDaysAside 3 none, Cond.methodLink RX3 86 Lib.Math.min.name, Cond.static Lib.Math.min.name, Cond.initialized "java/lang/Math", Cond.code Lib.Math.min.name Lib.Math.min.code 2 (some .int), Cond.fieldLink RX3 18 "GainsReckoner$Sheet" "boughtGone" "[I", Cond.fieldLink RX3 27 "GainsReckoner$Sheet" "soldGone" "[I", Cond.methodLink RX1 44 yX1_matchSameDay, Cond.instanceMethod yX1_matchSameDay, Cond.selects RX1 yX1_matchSameDay yX1_matchSameDay, Cond.initialized RX1, Cond.code yX1_matchSameDay cX1_matchSameDay 5 none, Cond.methodLink RX1 83 Lib.Math.min.name, Cond.static yX5_part, Cond.initialized RX5, Cond.code yX5_part cX5_part 4 (some .int), Cond.methodLink RX1 99 yX2_add, Cond.instanceMethod yX2_add, Cond.selects RX2 yX2_add yX2_add, Cond.initialized RX2, Cond.code yX2_add cX2_add 7 none, Cond.fieldLink RX2 30 "GainsReckoner$Matches" "size" "I", Cond.fieldLink RX2 9 "GainsReckoner$Matches" "kind" "[I"]
def wsX1_reckon_r4 : List Cond := [Cond.fieldLink RX2 15 "GainsReckoner$Matches" "soldOn" "[I", Cond.fieldLink RX2 18 "GainsReckoner$Matches" "boughtOn" "[I", Cond.fieldLink RX2 21 "GainsReckoner$Matches" "units" "[I", Cond.fieldLink RX2 24 "GainsReckoner$Matches" "cost" "[I", Cond.fieldLink RX2 27 "GainsReckoner$Matches" "proceeds" "[I", Cond.methodLink RX1 48 yX1_matchLaterDays, Cond.instanceMethod yX1_matchLaterDays, Cond.selects RX1 yX1_matchLaterDays yX1_matchLaterDays, Cond.code yX1_matchLaterDays cX1_matchLaterDays 9 none, Cond.methodLink RX1 109 yX1_takeBought, Cond.instanceMethod yX1_takeBought, Cond.selects RX1 yX1_takeBought yX1_takeBought, Cond.code yX1_takeBought cX1_takeBought 4 (some .int), Cond.methodLink RX1 112 yX1_takeSold, Cond.instanceMethod yX1_takeSold, Cond.selects RX1 yX1_takeSold yX1_takeSold, Cond.code yX1_takeSold cX1_takeSold 4 (some .int), Cond.methodLink RX1 52 yX1_pool, Cond.instanceMethod yX1_pool, Cond.selects RX1 yX1_pool yX1_pool, Cond.code yX1_pool cX1_pool 7 none]
def wsX1_reckon : List Cond := .code yX1_reckon cX1_reckon 4 none :: ((wsX1_reckon_r1 ++ (wsX1_reckon_r2 ++ (wsX1_reckon_r3 ++ wsX1_reckon_r4))) ++ wsX10 ++ wsX20 ++ wsX30 ++ wsX00 ++ wsX40)
def wsX1_heldShares : List Cond := .code yX1_heldShares cX1_heldShares 7 (some .int) :: ([.fieldLink RX1 32 "GainsReckoner$Ledger" "share" "I", .fieldLink RX1 12 "GainsReckoner$Ledger" "splits" "LGainsReckoner$Splits;", .methodLink RX1 62 yX0_counts, .instanceMethod yX0_counts, .selects RX0 yX0_counts yX0_counts, .initialized RX0, .code yX0_counts cX0_counts 3 (some .boolean), .fieldLink RX0 18 "GainsReckoner$Journal" "share" "[I", .fieldLink RX0 15 "GainsReckoner$Journal" "cancelled" "[Z", .methodLink RX1 69 yX4_factorBetween, .instanceMethod yX4_factorBetween, .selects RX4 yX4_factorBetween yX4_factorBetween, .initialized RX4, .code yX4_factorBetween cX4_factorBetween 5 (some .int), .fieldLink RX4 18 "GainsReckoner$Splits" "size" "I", .fieldLink RX4 9 "GainsReckoner$Splits" "day" "[I", .fieldLink RX4 15 "GainsReckoner$Splits" "factor" "[I"] ++ wsX00 ++ wsX10 ++ wsX40)
def wsX2_costOfAll : List Cond := .code yX2_costOfAll cX2_costOfAll 3 (some .int) :: ([.fieldLink RX2 30 "GainsReckoner$Matches" "size" "I", .fieldLink RX2 24 "GainsReckoner$Matches" "cost" "[I"] ++ wsX20)
def wsX2_gainOfYear : List Cond := .code yX2_gainOfYear cX2_gainOfYear 4 (some .int) :: ([.fieldLink RX2 30 "GainsReckoner$Matches" "size" "I", .fieldLink RX2 15 "GainsReckoner$Matches" "soldOn" "[I", .fieldLink RX2 27 "GainsReckoner$Matches" "proceeds" "[I", .fieldLink RX2 24 "GainsReckoner$Matches" "cost" "[I"] ++ wsX20)
def wsX3_leastUnitsFrom : List Cond := .code yX3_leastUnitsFrom cX3_leastUnitsFrom 5 (some .int) :: ([.fieldLink RX3 39 "GainsReckoner$Sheet" "size" "I", .fieldLink RX3 9 "GainsReckoner$Sheet" "day" "[I", .fieldLink RX3 15 "GainsReckoner$Sheet" "bought" "[I", .fieldLink RX3 24 "GainsReckoner$Sheet" "sold" "[I", .methodLink RX3 86 Lib.Math.min.name, .static Lib.Math.min.name, .initialized "java/lang/Math", .code Lib.Math.min.name Lib.Math.min.code 2 (some .int)] ++ wsX30)
def wsX3_costOfBuys : List Cond := .code yX3_costOfBuys cX3_costOfBuys 3 (some .int) :: ([.fieldLink RX3 39 "GainsReckoner$Sheet" "size" "I", .fieldLink RX3 21 "GainsReckoner$Sheet" "cost" "[I"] ++ wsX30)
def wsX4_isFull : List Cond := .code yX4_isFull cX4_isFull 1 (some .boolean) :: ([.fieldLink RX4 18 "GainsReckoner$Splits" "size" "I"] ++ wsX40)
def wsX4_hasDay : List Cond := .code yX4_hasDay cX4_hasDay 3 (some .boolean) :: ([.fieldLink RX4 18 "GainsReckoner$Splits" "size" "I", .fieldLink RX4 9 "GainsReckoner$Splits" "day" "[I"] ++ wsX40)
def wsX4_enter : List Cond := .code yX4_enter cX4_enter 3 none :: ([.fieldLink RX4 9 "GainsReckoner$Splits" "day" "[I", .fieldLink RX4 18 "GainsReckoner$Splits" "size" "I", .fieldLink RX4 15 "GainsReckoner$Splits" "factor" "[I", .methodLink RX4 22 yX4_isFull, .instanceMethod yX4_isFull, .selects RX4 yX4_isFull yX4_isFull, .initialized RX4, .code yX4_isFull cX4_isFull 1 (some .boolean)] ++ wsX40)
def wsX5_init_r1 : List Cond := [Cond.methodLink RX5 1 objectInit, Cond.instanceMethod objectInit, Cond.code objectInit ⟨#[0xb1]⟩ 1 none, Cond.classLink RX5 7 RX0, Cond.instantiable RX0 7, Cond.initialized RX0, Cond.fieldLink RX5 10 "GainsReckoner" "journal" "LGainsReckoner$Journal;", Cond.classLink RX5 16 RX1, Cond.fieldLink RX5 18 "GainsReckoner" "ledgers" "[LGainsReckoner$Ledger;", Cond.instantiable RX1 4, Cond.initialized RX1, Cond.arrayClass .int, Cond.fieldLink RX5 25 "GainsReckoner" "allowances" "[I", Cond.fieldLink RX5 29 "GainsReckoner" "window" "I", Cond.instanceMethod yX0_init, Cond.code yX0_init cX0_init 1 none, Cond.methodLink RX0 3 objectInit, Cond.arrayClass .boolean, Cond.fieldLink RX0 9 "GainsReckoner$Journal" "sale" "[Z", Cond.fieldLink RX0 15 "GainsReckoner$Journal" "cancelled" "[Z", Cond.fieldLink RX0 18 "GainsReckoner$Journal" "share" "[I", Cond.fieldLink RX0 22 "GainsReckoner$Journal" "day" "[I", Cond.fieldLink RX0 25 "GainsReckoner$Journal" "count" "[I", Cond.fieldLink RX0 28 "GainsReckoner$Journal" "money" "[I"]
def wsX5_init_r2 : List Cond := [Cond.fieldLink RX0 31 "GainsReckoner$Journal" "size" "I", Cond.methodLink RX5 22 yX1_init, Cond.instanceMethod yX1_init, Cond.code yX1_init cX1_init 2 none, Cond.methodLink RX1 3 objectInit, Cond.classLink RX1 9 RX4, Cond.instantiable RX4 3, Cond.initialized RX4, Cond.fieldLink RX1 12 "GainsReckoner$Ledger" "splits" "LGainsReckoner$Splits;", Cond.classLink RX1 18 RX3, Cond.instantiable RX3 10, Cond.initialized RX3, Cond.fieldLink RX1 21 "GainsReckoner$Ledger" "sheet" "LGainsReckoner$Sheet;", Cond.classLink RX1 25 RX2, Cond.instantiable RX2 7, Cond.initialized RX2, Cond.fieldLink RX1 28 "GainsReckoner$Ledger" "matched" "LGainsReckoner$Matches;", Cond.fieldLink RX1 32 "GainsReckoner$Ledger" "share" "I", Cond.instanceMethod yX4_init, Cond.code yX4_init cX4_init 1 none, Cond.methodLink RX4 3 objectInit, Cond.fieldLink RX4 9 "GainsReckoner$Splits" "day" "[I", Cond.fieldLink RX4 15 "GainsReckoner$Splits" "factor" "[I", Cond.fieldLink RX4 18 "GainsReckoner$Splits" "size" "I"]
def wsX5_init_r3 : List Cond := [Cond.instanceMethod yX3_init, Cond.code yX3_init cX3_init 1 none, Cond.methodLink RX3 3 objectInit, Cond.fieldLink RX3 9 "GainsReckoner$Sheet" "day" "[I", Cond.fieldLink RX3 15 "GainsReckoner$Sheet" "bought" "[I", Cond.fieldLink RX3 18 "GainsReckoner$Sheet" "boughtGone" "[I", Cond.fieldLink RX3 21 "GainsReckoner$Sheet" "cost" "[I", Cond.fieldLink RX3 24 "GainsReckoner$Sheet" "sold" "[I", Cond.fieldLink RX3 27 "GainsReckoner$Sheet" "soldGone" "[I", Cond.fieldLink RX3 30 "GainsReckoner$Sheet" "proceeds" "[I", Cond.fieldLink RX3 33 "GainsReckoner$Sheet" "pooledUnits" "[I", Cond.fieldLink RX3 36 "GainsReckoner$Sheet" "pooledCost" "[I", Cond.fieldLink RX3 39 "GainsReckoner$Sheet" "size" "I", Cond.instanceMethod yX2_init, Cond.code yX2_init cX2_init 1 none, Cond.methodLink RX2 3 objectInit, Cond.fieldLink RX2 9 "GainsReckoner$Matches" "kind" "[I", Cond.fieldLink RX2 15 "GainsReckoner$Matches" "soldOn" "[I", Cond.fieldLink RX2 18 "GainsReckoner$Matches" "boughtOn" "[I", Cond.fieldLink RX2 21 "GainsReckoner$Matches" "units" "[I", Cond.fieldLink RX2 24 "GainsReckoner$Matches" "cost" "[I", Cond.fieldLink RX2 27 "GainsReckoner$Matches" "proceeds" "[I", Cond.fieldLink RX2 30 "GainsReckoner$Matches" "size" "I"]
def wsX5_init : List Cond := .code yX5_init cX5_init 2 none :: ((wsX5_init_r1 ++ (wsX5_init_r2 ++ wsX5_init_r3)) ++ wsX00 ++ wsX50 ++ wsX10 ++ wsX40 ++ wsX30 ++ wsX20)
def wsX5_ledgerOf : List Cond := .code yX5_ledgerOf cX5_ledgerOf 2 (some (.object "GainsReckoner$Ledger")) :: ([.classLink RX5 88 "java/lang/IndexOutOfBoundsException", .initialized "java/lang/IndexOutOfBoundsException", .fieldLink RX5 18 "GainsReckoner" "ledgers" "[LGainsReckoner$Ledger;"] ++ wsX50 ++ (vx_atS RX5 92 "java/lang/IndexOutOfBoundsException" ["java/lang/RuntimeException", "java/lang/Exception"]).filter goodWord)
def wsX5_ledgerAt : List Cond := .code yX5_ledgerAt cX5_ledgerAt 4 (some (.object "GainsReckoner$Ledger")) :: ([.classLink RX5 88 "java/lang/IndexOutOfBoundsException", .initialized "java/lang/IndexOutOfBoundsException", .methodLink RX5 139 yX5_ledgerOf, .instanceMethod yX5_ledgerOf, .selects RX5 yX5_ledgerOf yX5_ledgerOf, .initialized RX5, .code yX5_ledgerOf cX5_ledgerOf 2 (some (.object "GainsReckoner$Ledger")), .fieldLink RX5 18 "GainsReckoner" "ledgers" "[LGainsReckoner$Ledger;"] ++ wsX50 ++ (vx_atS RX5 92 "java/lang/IndexOutOfBoundsException" ["java/lang/RuntimeException", "java/lang/Exception"]).filter goodWord)
def wsX5_checkMoney : List Cond := .code yX5_checkMoney cX5_checkMoney 1 none :: ([.classLink RX5 56 "java/lang/IllegalArgumentException", .initialized "java/lang/IllegalArgumentException", .constant RX5 213 (1000000)] ++ (vx_atS RX5 60 "java/lang/IllegalArgumentException" ["java/lang/RuntimeException", "java/lang/Exception"]).filter goodWord)
def wsX5_checkTrade : List Cond := .code yX5_checkTrade cX5_checkTrade 2 none :: ([.classLink RX5 56 "java/lang/IllegalArgumentException", .initialized "java/lang/IllegalArgumentException", .methodLink RX5 114 yX5_checkMoney, .static yX5_checkMoney, .initialized RX5, .code yX5_checkMoney cX5_checkMoney 1 none, .constant RX5 213 (1000000)] ++ (vx_atS RX5 60 "java/lang/IllegalArgumentException" ["java/lang/RuntimeException", "java/lang/Exception"]).filter goodWord)
def wsX5_checkRoomForTrade : List Cond := .code yX5_checkRoomForTrade cX5_checkRoomForTrade 1 none :: ([.classLink RX5 77 "java/lang/IllegalStateException", .initialized "java/lang/IllegalStateException", .fieldLink RX5 10 "GainsReckoner" "journal" "LGainsReckoner$Journal;", .methodLink RX5 206 yX0_isFull, .instanceMethod yX0_isFull, .selects RX0 yX0_isFull yX0_isFull, .initialized RX0, .code yX0_isFull cX0_isFull 1 (some .boolean), .fieldLink RX0 31 "GainsReckoner$Journal" "size" "I"] ++ wsX50 ++ wsX00 ++ (vx_atS RX5 81 "java/lang/IllegalStateException" ["java/lang/RuntimeException", "java/lang/Exception"]).filter goodWord)
def wsX5_buy_r1 : List Cond := [Cond.fieldLink RX5 10 "GainsReckoner" "journal" "LGainsReckoner$Journal;", Cond.fieldLink RX5 29 "GainsReckoner" "window" "I", Cond.methodLink RX5 33 yX5_ledgerAt, Cond.instanceMethod yX5_ledgerAt, Cond.selects RX5 yX5_ledgerAt yX5_ledgerAt, Cond.initialized RX5, Cond.code yX5_ledgerAt cX5_ledgerAt 4 (some (.object "GainsReckoner$Ledger")), Cond.classLink RX5 88 "java/lang/IndexOutOfBoundsException", Cond.initialized "java/lang/IndexOutOfBoundsException", Cond.methodLink RX5 139 yX5_ledgerOf, Cond.instanceMethod yX5_ledgerOf, Cond.selects RX5 yX5_ledgerOf yX5_ledgerOf, Cond.code yX5_ledgerOf cX5_ledgerOf 2 (some (.object "GainsReckoner$Ledger")), Cond.fieldLink RX5 18 "GainsReckoner" "ledgers" "[LGainsReckoner$Ledger;", Cond.methodLink RX5 37 yX5_checkTrade, Cond.static yX5_checkTrade, Cond.code yX5_checkTrade cX5_checkTrade 2 none, Cond.classLink RX5 56 "java/lang/IllegalArgumentException", Cond.initialized "java/lang/IllegalArgumentException", Cond.methodLink RX5 114 yX5_checkMoney, Cond.static yX5_checkMoney, Cond.code yX5_checkMoney cX5_checkMoney 1 none, Cond.constant RX5 213 (1000000), Cond.methodLink RX5 41 yX5_checkRoomForTrade]
def wsX5_buy_r2 : List Cond := [Cond.instanceMethod yX5_checkRoomForTrade, Cond.selects RX5 yX5_checkRoomForTrade yX5_checkRoomForTrade, Cond.code yX5_checkRoomForTrade cX5_checkRoomForTrade 1 none, Cond.classLink RX5 77 "java/lang/IllegalStateException", Cond.initialized "java/lang/IllegalStateException", Cond.methodLink RX5 206 yX0_isFull, Cond.instanceMethod yX0_isFull, Cond.selects RX0 yX0_isFull yX0_isFull, Cond.initialized RX0, Cond.code yX0_isFull cX0_isFull 1 (some .boolean), Cond.fieldLink RX0 31 "GainsReckoner$Journal" "size" "I", Cond.methodLink RX5 44 yX0_enter, Cond.instanceMethod yX0_enter, Cond.selects RX0 yX0_enter yX0_enter, Cond.code yX0_enter cX0_enter 7 (some .int), Cond.fieldLink RX0 9 "GainsReckoner$Journal" "sale" "[Z", Cond.fieldLink RX0 18 "GainsReckoner$Journal" "share" "[I", Cond.fieldLink RX0 22 "GainsReckoner$Journal" "day" "[I", Cond.fieldLink RX0 25 "GainsReckoner$Journal" "count" "[I", Cond.fieldLink RX0 28 "GainsReckoner$Journal" "money" "[I", Cond.methodLink RX0 35 yX0_isFull, Cond.methodLink RX5 48 yX1_reckon, Cond.instanceMethod yX1_reckon, Cond.selects RX1 yX1_reckon yX1_reckon]
def wsX5_buy_r3 : List Cond := [Cond.initialized RX1, Cond.code yX1_reckon cX1_reckon 4 none, Cond.fieldLink RX1 21 "GainsReckoner$Ledger" "sheet" "LGainsReckoner$Sheet;", Cond.fieldLink RX1 32 "GainsReckoner$Ledger" "share" "I", Cond.fieldLink RX1 12 "GainsReckoner$Ledger" "splits" "LGainsReckoner$Splits;", Cond.fieldLink RX1 28 "GainsReckoner$Ledger" "matched" "LGainsReckoner$Matches;", Cond.methodLink RX1 36 yX3_fill, Cond.instanceMethod yX3_fill, Cond.selects RX3 yX3_fill yX3_fill, Cond.initialized RX3, Cond.code yX3_fill cX3_fill 6 none, Cond.methodLink RX3 43 yX3_openRows, Cond.instanceMethod yX3_openRows, Cond.selects RX3 yX3_openRows yX3_openRows, Cond.code yX3_openRows cX3_openRows 4 none, Cond.fieldLink RX3 39 "GainsReckoner$Sheet" "size" "I", Cond.fieldLink RX3 15 "GainsReckoner$Sheet" "bought" "[I", Cond.fieldLink RX3 21 "GainsReckoner$Sheet" "cost" "[I", Cond.fieldLink RX3 24 "GainsReckoner$Sheet" "sold" "[I", Cond.fieldLink RX3 30 "GainsReckoner$Sheet" "proceeds" "[I", Cond.methodLink RX3 50 yX0_counts, Cond.instanceMethod yX0_counts, Cond.selects RX0 yX0_counts yX0_counts, Cond.code yX0_counts cX0_counts 3 (some .boolean)]
def wsX5_buy_r4 : List Cond := [Cond.fieldLink RX0 15 "GainsReckoner$Journal" "cancelled" "[Z", Cond.methodLink RX3 71 yX3_openRow, Cond.instanceMethod yX3_openRow, Cond.selects RX3 yX3_openRow yX3_openRow, Cond.code yX3_openRow cX3_openRow 4 none, Cond.fieldLink RX3 9 "GainsReckoner$Sheet" "day" "[I", Cond.methodLink RX3 75 yX3_lastRowUpTo, Cond.instanceMethod yX3_lastRowUpTo, Cond.selects RX3 yX3_lastRowUpTo yX3_lastRowUpTo, Cond.code yX3_lastRowUpTo cX3_lastRowUpTo 4 (some .int), Cond.methodLink RX3 58 yX4_factorBetween, Cond.instanceMethod yX4_factorBetween, Cond.selects RX4 yX4_factorBetween yX4_factorBetween, Cond.initialized RX4, Cond.code yX4_factorBetween cX4_factorBetween 5 (some .int), Cond.fieldLink RX4 18 "GainsReckoner$Splits" "size" "I", Cond.fieldLink RX4 9 "GainsReckoner$Splits" "day" "[I", Cond.fieldLink RX4 15 "GainsReckoner$Splits" "factor" "[I", Cond.methodLink RX3 64 yX3_addTrade, Cond.instanceMethod yX3_addTrade, Cond.selects RX3 yX3_addTrade yX3_addTrade, Cond.code yX3_addTrade cX3_addTrade 5 none, Cond.methodLink RX3 68 yX3_setSameDaysAside, Cond.instanceMethod yX3_setSameDaysAside]
def wsX5_buy_r5 : List Cond := [Cond.selects RX3 yX3_setSameDaysAside yX3_setSameDaysAside, Cond.code yX3_setSameDaysAside cX3_setSameDaysAside 3 none, Cond.methodLink RX3 86 Lib.Math.min.name, Cond.static Lib.Math.min.name, Cond.initialized "java/lang/Math", Cond.code Lib.Math.min.name Lib.Math.min.code 2 (some .int), Cond.fieldLink RX3 18 "GainsReckoner$Sheet" "boughtGone" "[I", Cond.fieldLink RX3 27 "GainsReckoner$Sheet" "soldGone" "[I", Cond.methodLink RX1 44 yX1_matchSameDay, Cond.instanceMethod yX1_matchSameDay, Cond.selects RX1 yX1_matchSameDay yX1_matchSameDay, Cond.code yX1_matchSameDay cX1_matchSameDay 5 none, Cond.methodLink RX1 83 Lib.Math.min.name, Cond.static yX5_part, Cond.code yX5_part cX5_part 4 (some .int), Cond.methodLink RX1 99 yX2_add, Cond.instanceMethod yX2_add, Cond.selects RX2 yX2_add yX2_add, Cond.initialized RX2, Cond.code yX2_add cX2_add 7 none, Cond.fieldLink RX2 30 "GainsReckoner$Matches" "size" "I", Cond.fieldLink RX2 9 "GainsReckoner$Matches" "kind" "[I", Cond.fieldLink RX2 15 "GainsReckoner$Matches" "soldOn" "[I", Cond.fieldLink RX2 18 "GainsReckoner$Matches" "boughtOn" "[I"]
def wsX5_buy_r6 : List Cond := [Cond.fieldLink RX2 21 "GainsReckoner$Matches" "units" "[I", Cond.fieldLink RX2 24 "GainsReckoner$Matches" "cost" "[I", Cond.fieldLink RX2 27 "GainsReckoner$Matches" "proceeds" "[I", Cond.methodLink RX1 48 yX1_matchLaterDays, Cond.instanceMethod yX1_matchLaterDays, Cond.selects RX1 yX1_matchLaterDays yX1_matchLaterDays, Cond.code yX1_matchLaterDays cX1_matchLaterDays 9 none, Cond.methodLink RX1 109 yX1_takeBought, Cond.instanceMethod yX1_takeBought, Cond.selects RX1 yX1_takeBought yX1_takeBought, Cond.code yX1_takeBought cX1_takeBought 4 (some .int), Cond.methodLink RX1 112 yX1_takeSold, Cond.instanceMethod yX1_takeSold, Cond.selects RX1 yX1_takeSold yX1_takeSold, Cond.code yX1_takeSold cX1_takeSold 4 (some .int), Cond.methodLink RX1 52 yX1_pool, Cond.instanceMethod yX1_pool, Cond.selects RX1 yX1_pool yX1_pool, Cond.code yX1_pool cX1_pool 7 none]
def wsX5_buy : List Cond := .code yX5_buy cX5_buy 7 (some .int) :: ((wsX5_buy_r1 ++ (wsX5_buy_r2 ++ (wsX5_buy_r3 ++ (wsX5_buy_r4 ++ (wsX5_buy_r5 ++ wsX5_buy_r6))))) ++ wsX50 ++ wsX00 ++ wsX10 ++ wsX20 ++ wsX30 ++ wsX40 ++ (vx_atS RX5 92 "java/lang/IndexOutOfBoundsException" ["java/lang/RuntimeException", "java/lang/Exception"]).filter goodWord ++ (vx_atS RX5 60 "java/lang/IllegalArgumentException" ["java/lang/RuntimeException", "java/lang/Exception"]).filter goodWord ++ (vx_atS RX5 81 "java/lang/IllegalStateException" ["java/lang/RuntimeException", "java/lang/Exception"]).filter goodWord)
def wsX5_checkCanSpare : List Cond := .code yX5_checkCanSpare cX5_checkCanSpare 4 none :: ([.classLink RX5 77 "java/lang/IllegalStateException", .initialized "java/lang/IllegalStateException", .methodLink RX5 216 yX4_factorBetween, .instanceMethod yX4_factorBetween, .selects RX4 yX4_factorBetween yX4_factorBetween, .initialized RX4, .code yX4_factorBetween cX4_factorBetween 5 (some .int), .fieldLink RX4 18 "GainsReckoner$Splits" "size" "I", .fieldLink RX4 9 "GainsReckoner$Splits" "day" "[I", .fieldLink RX4 15 "GainsReckoner$Splits" "factor" "[I", .methodLink RX5 219 yX3_leastUnitsFrom, .instanceMethod yX3_leastUnitsFrom, .selects RX3 yX3_leastUnitsFrom yX3_leastUnitsFrom, .initialized RX3, .code yX3_leastUnitsFrom cX3_leastUnitsFrom 5 (some .int), .fieldLink RX3 39 "GainsReckoner$Sheet" "size" "I", .fieldLink RX3 9 "GainsReckoner$Sheet" "day" "[I", .fieldLink RX3 15 "GainsReckoner$Sheet" "bought" "[I", .fieldLink RX3 24 "GainsReckoner$Sheet" "sold" "[I", .methodLink RX3 86 Lib.Math.min.name, .static Lib.Math.min.name, .initialized "java/lang/Math", .code Lib.Math.min.name Lib.Math.min.code 2 (some .int)] ++ wsX10 ++ wsX40 ++ wsX30 ++ (vx_atS RX5 81 "java/lang/IllegalStateException" ["java/lang/RuntimeException", "java/lang/Exception"]).filter goodWord)
def wsX5_sell_r1 : List Cond := [Cond.fieldLink RX5 10 "GainsReckoner" "journal" "LGainsReckoner$Journal;", Cond.fieldLink RX5 29 "GainsReckoner" "window" "I", Cond.methodLink RX5 33 yX5_ledgerAt, Cond.instanceMethod yX5_ledgerAt, Cond.selects RX5 yX5_ledgerAt yX5_ledgerAt, Cond.initialized RX5, Cond.code yX5_ledgerAt cX5_ledgerAt 4 (some (.object "GainsReckoner$Ledger")), Cond.classLink RX5 88 "java/lang/IndexOutOfBoundsException", Cond.initialized "java/lang/IndexOutOfBoundsException", Cond.methodLink RX5 139 yX5_ledgerOf, Cond.instanceMethod yX5_ledgerOf, Cond.selects RX5 yX5_ledgerOf yX5_ledgerOf, Cond.code yX5_ledgerOf cX5_ledgerOf 2 (some (.object "GainsReckoner$Ledger")), Cond.fieldLink RX5 18 "GainsReckoner" "ledgers" "[LGainsReckoner$Ledger;", Cond.methodLink RX5 37 yX5_checkTrade, Cond.static yX5_checkTrade, Cond.code yX5_checkTrade cX5_checkTrade 2 none, Cond.classLink RX5 56 "java/lang/IllegalArgumentException", Cond.initialized "java/lang/IllegalArgumentException", Cond.methodLink RX5 114 yX5_checkMoney, Cond.static yX5_checkMoney, Cond.code yX5_checkMoney cX5_checkMoney 1 none, Cond.constant RX5 213 (1000000), Cond.methodLink RX5 41 yX5_checkRoomForTrade]
def wsX5_sell_r2 : List Cond := [Cond.instanceMethod yX5_checkRoomForTrade, Cond.selects RX5 yX5_checkRoomForTrade yX5_checkRoomForTrade, Cond.code yX5_checkRoomForTrade cX5_checkRoomForTrade 1 none, Cond.classLink RX5 77 "java/lang/IllegalStateException", Cond.initialized "java/lang/IllegalStateException", Cond.methodLink RX5 206 yX0_isFull, Cond.instanceMethod yX0_isFull, Cond.selects RX0 yX0_isFull yX0_isFull, Cond.initialized RX0, Cond.code yX0_isFull cX0_isFull 1 (some .boolean), Cond.fieldLink RX0 31 "GainsReckoner$Journal" "size" "I", Cond.methodLink RX5 52 yX5_checkCanSpare, Cond.static yX5_checkCanSpare, Cond.code yX5_checkCanSpare cX5_checkCanSpare 4 none, Cond.methodLink RX5 216 yX4_factorBetween, Cond.instanceMethod yX4_factorBetween, Cond.selects RX4 yX4_factorBetween yX4_factorBetween, Cond.initialized RX4, Cond.code yX4_factorBetween cX4_factorBetween 5 (some .int), Cond.fieldLink RX4 18 "GainsReckoner$Splits" "size" "I", Cond.fieldLink RX4 9 "GainsReckoner$Splits" "day" "[I", Cond.fieldLink RX4 15 "GainsReckoner$Splits" "factor" "[I", Cond.methodLink RX5 219 yX3_leastUnitsFrom, Cond.instanceMethod yX3_leastUnitsFrom]
def wsX5_sell_r3 : List Cond := [Cond.selects RX3 yX3_leastUnitsFrom yX3_leastUnitsFrom, Cond.initialized RX3, Cond.code yX3_leastUnitsFrom cX3_leastUnitsFrom 5 (some .int), Cond.fieldLink RX3 39 "GainsReckoner$Sheet" "size" "I", Cond.fieldLink RX3 9 "GainsReckoner$Sheet" "day" "[I", Cond.fieldLink RX3 15 "GainsReckoner$Sheet" "bought" "[I", Cond.fieldLink RX3 24 "GainsReckoner$Sheet" "sold" "[I", Cond.methodLink RX3 86 Lib.Math.min.name, Cond.static Lib.Math.min.name, Cond.initialized "java/lang/Math", Cond.code Lib.Math.min.name Lib.Math.min.code 2 (some .int), Cond.methodLink RX5 44 yX0_enter, Cond.instanceMethod yX0_enter, Cond.selects RX0 yX0_enter yX0_enter, Cond.code yX0_enter cX0_enter 7 (some .int), Cond.fieldLink RX0 9 "GainsReckoner$Journal" "sale" "[Z", Cond.fieldLink RX0 18 "GainsReckoner$Journal" "share" "[I", Cond.fieldLink RX0 22 "GainsReckoner$Journal" "day" "[I", Cond.fieldLink RX0 25 "GainsReckoner$Journal" "count" "[I", Cond.fieldLink RX0 28 "GainsReckoner$Journal" "money" "[I", Cond.methodLink RX0 35 yX0_isFull, Cond.methodLink RX5 48 yX1_reckon, Cond.instanceMethod yX1_reckon, Cond.selects RX1 yX1_reckon yX1_reckon]
def wsX5_sell_r4 : List Cond := [Cond.initialized RX1, Cond.code yX1_reckon cX1_reckon 4 none, Cond.fieldLink RX1 21 "GainsReckoner$Ledger" "sheet" "LGainsReckoner$Sheet;", Cond.fieldLink RX1 32 "GainsReckoner$Ledger" "share" "I", Cond.fieldLink RX1 12 "GainsReckoner$Ledger" "splits" "LGainsReckoner$Splits;", Cond.fieldLink RX1 28 "GainsReckoner$Ledger" "matched" "LGainsReckoner$Matches;", Cond.methodLink RX1 36 yX3_fill, Cond.instanceMethod yX3_fill, Cond.selects RX3 yX3_fill yX3_fill, Cond.code yX3_fill cX3_fill 6 none, Cond.methodLink RX3 43 yX3_openRows, Cond.instanceMethod yX3_openRows, Cond.selects RX3 yX3_openRows yX3_openRows, Cond.code yX3_openRows cX3_openRows 4 none, Cond.fieldLink RX3 21 "GainsReckoner$Sheet" "cost" "[I", Cond.fieldLink RX3 30 "GainsReckoner$Sheet" "proceeds" "[I", Cond.methodLink RX3 50 yX0_counts, Cond.instanceMethod yX0_counts, Cond.selects RX0 yX0_counts yX0_counts, Cond.code yX0_counts cX0_counts 3 (some .boolean), Cond.fieldLink RX0 15 "GainsReckoner$Journal" "cancelled" "[Z", Cond.methodLink RX3 71 yX3_openRow, Cond.instanceMethod yX3_openRow, Cond.selects RX3 yX3_openRow yX3_openRow]
def wsX5_sell_r5 : List Cond := [Cond.code yX3_openRow cX3_openRow 4 none, Cond.methodLink RX3 75 yX3_lastRowUpTo, Cond.instanceMethod yX3_lastRowUpTo, Cond.selects RX3 yX3_lastRowUpTo yX3_lastRowUpTo, Cond.code yX3_lastRowUpTo cX3_lastRowUpTo 4 (some .int), Cond.methodLink RX3 58 yX4_factorBetween, Cond.methodLink RX3 64 yX3_addTrade, Cond.instanceMethod yX3_addTrade, Cond.selects RX3 yX3_addTrade yX3_addTrade, Cond.code yX3_addTrade cX3_addTrade 5 none, Cond.methodLink RX3 68 yX3_setSameDaysAside, Cond.instanceMethod yX3_setSameDaysAside, Cond.selects RX3 yX3_setSameDaysAside yX3_setSameDaysAside, Cond.code yX3_setSameDaysAside cX3_setSameDaysAside 3 none, Cond.fieldLink RX3 18 "GainsReckoner$Sheet" "boughtGone" "[I", Cond.fieldLink RX3 27 "GainsReckoner$Sheet" "soldGone" "[I", Cond.methodLink RX1 44 yX1_matchSameDay, Cond.instanceMethod yX1_matchSameDay, Cond.selects RX1 yX1_matchSameDay yX1_matchSameDay, Cond.code yX1_matchSameDay cX1_matchSameDay 5 none, Cond.methodLink RX1 83 Lib.Math.min.name, Cond.static yX5_part, Cond.code yX5_part cX5_part 4 (some .int), Cond.methodLink RX1 99 yX2_add]
def wsX5_sell_r6 : List Cond := [Cond.instanceMethod yX2_add, Cond.selects RX2 yX2_add yX2_add, Cond.initialized RX2, Cond.code yX2_add cX2_add 7 none, Cond.fieldLink RX2 30 "GainsReckoner$Matches" "size" "I", Cond.fieldLink RX2 9 "GainsReckoner$Matches" "kind" "[I", Cond.fieldLink RX2 15 "GainsReckoner$Matches" "soldOn" "[I", Cond.fieldLink RX2 18 "GainsReckoner$Matches" "boughtOn" "[I", Cond.fieldLink RX2 21 "GainsReckoner$Matches" "units" "[I", Cond.fieldLink RX2 24 "GainsReckoner$Matches" "cost" "[I", Cond.fieldLink RX2 27 "GainsReckoner$Matches" "proceeds" "[I", Cond.methodLink RX1 48 yX1_matchLaterDays, Cond.instanceMethod yX1_matchLaterDays, Cond.selects RX1 yX1_matchLaterDays yX1_matchLaterDays, Cond.code yX1_matchLaterDays cX1_matchLaterDays 9 none, Cond.methodLink RX1 109 yX1_takeBought, Cond.instanceMethod yX1_takeBought, Cond.selects RX1 yX1_takeBought yX1_takeBought, Cond.code yX1_takeBought cX1_takeBought 4 (some .int), Cond.methodLink RX1 112 yX1_takeSold, Cond.instanceMethod yX1_takeSold, Cond.selects RX1 yX1_takeSold yX1_takeSold, Cond.code yX1_takeSold cX1_takeSold 4 (some .int), Cond.methodLink RX1 52 yX1_pool]
def wsX5_sell_r7 : List Cond := [Cond.instanceMethod yX1_pool, Cond.selects RX1 yX1_pool yX1_pool, Cond.code yX1_pool cX1_pool 7 none]
def wsX5_sell : List Cond := .code yX5_sell cX5_sell 7 (some .int) :: ((wsX5_sell_r1 ++ (wsX5_sell_r2 ++ (wsX5_sell_r3 ++ (wsX5_sell_r4 ++ (wsX5_sell_r5 ++ (wsX5_sell_r6 ++ wsX5_sell_r7)))))) ++ wsX50 ++ wsX00 ++ wsX10 ++ wsX40 ++ wsX30 ++ wsX20 ++ (vx_atS RX5 92 "java/lang/IndexOutOfBoundsException" ["java/lang/RuntimeException", "java/lang/Exception"]).filter goodWord ++ (vx_atS RX5 60 "java/lang/IllegalArgumentException" ["java/lang/RuntimeException", "java/lang/Exception"]).filter goodWord ++ (vx_atS RX5 81 "java/lang/IllegalStateException" ["java/lang/RuntimeException", "java/lang/Exception"]).filter goodWord)
def wsX5_split_r1 : List Cond := [Cond.classLink RX5 56 "java/lang/IllegalArgumentException", Cond.initialized "java/lang/IllegalArgumentException", Cond.classLink RX5 77 "java/lang/IllegalStateException", Cond.initialized "java/lang/IllegalStateException", Cond.fieldLink RX5 10 "GainsReckoner" "journal" "LGainsReckoner$Journal;", Cond.fieldLink RX5 29 "GainsReckoner" "window" "I", Cond.methodLink RX5 33 yX5_ledgerAt, Cond.instanceMethod yX5_ledgerAt, Cond.selects RX5 yX5_ledgerAt yX5_ledgerAt, Cond.initialized RX5, Cond.code yX5_ledgerAt cX5_ledgerAt 4 (some (.object "GainsReckoner$Ledger")), Cond.classLink RX5 88 "java/lang/IndexOutOfBoundsException", Cond.initialized "java/lang/IndexOutOfBoundsException", Cond.methodLink RX5 139 yX5_ledgerOf, Cond.instanceMethod yX5_ledgerOf, Cond.selects RX5 yX5_ledgerOf yX5_ledgerOf, Cond.code yX5_ledgerOf cX5_ledgerOf 2 (some (.object "GainsReckoner$Ledger")), Cond.fieldLink RX5 18 "GainsReckoner" "ledgers" "[LGainsReckoner$Ledger;", Cond.methodLink RX5 67 yX4_isFull, Cond.instanceMethod yX4_isFull, Cond.selects RX4 yX4_isFull yX4_isFull, Cond.initialized RX4, Cond.code yX4_isFull cX4_isFull 1 (some .boolean), Cond.fieldLink RX4 18 "GainsReckoner$Splits" "size" "I"]
def wsX5_split_r2 : List Cond := [Cond.methodLink RX5 73 yX4_hasDay, Cond.instanceMethod yX4_hasDay, Cond.selects RX4 yX4_hasDay yX4_hasDay, Cond.code yX4_hasDay cX4_hasDay 3 (some .boolean), Cond.fieldLink RX4 9 "GainsReckoner$Splits" "day" "[I", Cond.methodLink RX5 82 yX4_enter, Cond.instanceMethod yX4_enter, Cond.selects RX4 yX4_enter yX4_enter, Cond.code yX4_enter cX4_enter 3 none, Cond.fieldLink RX4 15 "GainsReckoner$Splits" "factor" "[I", Cond.methodLink RX4 22 yX4_isFull, Cond.methodLink RX5 48 yX1_reckon, Cond.instanceMethod yX1_reckon, Cond.selects RX1 yX1_reckon yX1_reckon, Cond.initialized RX1, Cond.code yX1_reckon cX1_reckon 4 none, Cond.fieldLink RX1 21 "GainsReckoner$Ledger" "sheet" "LGainsReckoner$Sheet;", Cond.fieldLink RX1 32 "GainsReckoner$Ledger" "share" "I", Cond.fieldLink RX1 12 "GainsReckoner$Ledger" "splits" "LGainsReckoner$Splits;", Cond.fieldLink RX1 28 "GainsReckoner$Ledger" "matched" "LGainsReckoner$Matches;", Cond.methodLink RX1 36 yX3_fill, Cond.instanceMethod yX3_fill, Cond.selects RX3 yX3_fill yX3_fill, Cond.initialized RX3]
def wsX5_split_r3 : List Cond := [Cond.code yX3_fill cX3_fill 6 none, Cond.methodLink RX3 43 yX3_openRows, Cond.instanceMethod yX3_openRows, Cond.selects RX3 yX3_openRows yX3_openRows, Cond.code yX3_openRows cX3_openRows 4 none, Cond.fieldLink RX3 39 "GainsReckoner$Sheet" "size" "I", Cond.fieldLink RX3 15 "GainsReckoner$Sheet" "bought" "[I", Cond.fieldLink RX3 21 "GainsReckoner$Sheet" "cost" "[I", Cond.fieldLink RX3 24 "GainsReckoner$Sheet" "sold" "[I", Cond.fieldLink RX3 30 "GainsReckoner$Sheet" "proceeds" "[I", Cond.methodLink RX3 50 yX0_counts, Cond.instanceMethod yX0_counts, Cond.selects RX0 yX0_counts yX0_counts, Cond.initialized RX0, Cond.code yX0_counts cX0_counts 3 (some .boolean), Cond.fieldLink RX0 18 "GainsReckoner$Journal" "share" "[I", Cond.fieldLink RX0 15 "GainsReckoner$Journal" "cancelled" "[Z", Cond.methodLink RX3 71 yX3_openRow, Cond.instanceMethod yX3_openRow, Cond.selects RX3 yX3_openRow yX3_openRow, Cond.code yX3_openRow cX3_openRow 4 none, Cond.fieldLink RX3 9 "GainsReckoner$Sheet" "day" "[I", Cond.methodLink RX3 75 yX3_lastRowUpTo, Cond.instanceMethod yX3_lastRowUpTo]
def wsX5_split_r4 : List Cond := [Cond.selects RX3 yX3_lastRowUpTo yX3_lastRowUpTo, Cond.code yX3_lastRowUpTo cX3_lastRowUpTo 4 (some .int), Cond.methodLink RX3 58 yX4_factorBetween, Cond.instanceMethod yX4_factorBetween, Cond.selects RX4 yX4_factorBetween yX4_factorBetween, Cond.code yX4_factorBetween cX4_factorBetween 5 (some .int), Cond.methodLink RX3 64 yX3_addTrade, Cond.instanceMethod yX3_addTrade, Cond.selects RX3 yX3_addTrade yX3_addTrade, Cond.code yX3_addTrade cX3_addTrade 5 none, Cond.methodLink RX3 68 yX3_setSameDaysAside, Cond.instanceMethod yX3_setSameDaysAside, Cond.selects RX3 yX3_setSameDaysAside yX3_setSameDaysAside, Cond.code yX3_setSameDaysAside cX3_setSameDaysAside 3 none, Cond.methodLink RX3 86 Lib.Math.min.name, Cond.static Lib.Math.min.name, Cond.initialized "java/lang/Math", Cond.code Lib.Math.min.name Lib.Math.min.code 2 (some .int), Cond.fieldLink RX3 18 "GainsReckoner$Sheet" "boughtGone" "[I", Cond.fieldLink RX3 27 "GainsReckoner$Sheet" "soldGone" "[I", Cond.methodLink RX1 44 yX1_matchSameDay, Cond.instanceMethod yX1_matchSameDay, Cond.selects RX1 yX1_matchSameDay yX1_matchSameDay, Cond.code yX1_matchSameDay cX1_matchSameDay 5 none]
def wsX5_split_r5 : List Cond := [Cond.methodLink RX1 83 Lib.Math.min.name, Cond.static yX5_part, Cond.code yX5_part cX5_part 4 (some .int), Cond.methodLink RX1 99 yX2_add, Cond.instanceMethod yX2_add, Cond.selects RX2 yX2_add yX2_add, Cond.initialized RX2, Cond.code yX2_add cX2_add 7 none, Cond.fieldLink RX2 30 "GainsReckoner$Matches" "size" "I", Cond.fieldLink RX2 9 "GainsReckoner$Matches" "kind" "[I", Cond.fieldLink RX2 15 "GainsReckoner$Matches" "soldOn" "[I", Cond.fieldLink RX2 18 "GainsReckoner$Matches" "boughtOn" "[I", Cond.fieldLink RX2 21 "GainsReckoner$Matches" "units" "[I", Cond.fieldLink RX2 24 "GainsReckoner$Matches" "cost" "[I", Cond.fieldLink RX2 27 "GainsReckoner$Matches" "proceeds" "[I", Cond.methodLink RX1 48 yX1_matchLaterDays, Cond.instanceMethod yX1_matchLaterDays, Cond.selects RX1 yX1_matchLaterDays yX1_matchLaterDays, Cond.code yX1_matchLaterDays cX1_matchLaterDays 9 none, Cond.methodLink RX1 109 yX1_takeBought, Cond.instanceMethod yX1_takeBought, Cond.selects RX1 yX1_takeBought yX1_takeBought, Cond.code yX1_takeBought cX1_takeBought 4 (some .int), Cond.methodLink RX1 112 yX1_takeSold]
def wsX5_split_r6 : List Cond := [Cond.instanceMethod yX1_takeSold, Cond.selects RX1 yX1_takeSold yX1_takeSold, Cond.code yX1_takeSold cX1_takeSold 4 (some .int), Cond.methodLink RX1 52 yX1_pool, Cond.instanceMethod yX1_pool, Cond.selects RX1 yX1_pool yX1_pool, Cond.code yX1_pool cX1_pool 7 none]
def wsX5_split : List Cond := .code yX5_split cX5_split 5 (some .int) :: ((wsX5_split_r1 ++ (wsX5_split_r2 ++ (wsX5_split_r3 ++ (wsX5_split_r4 ++ (wsX5_split_r5 ++ wsX5_split_r6))))) ++ wsX10 ++ wsX50 ++ wsX40 ++ wsX20 ++ wsX30 ++ wsX00 ++ (vx_atS RX5 60 "java/lang/IllegalArgumentException" ["java/lang/RuntimeException", "java/lang/Exception"]).filter goodWord ++ (vx_atS RX5 81 "java/lang/IllegalStateException" ["java/lang/RuntimeException", "java/lang/Exception"]).filter goodWord ++ (vx_atS RX5 92 "java/lang/IndexOutOfBoundsException" ["java/lang/RuntimeException", "java/lang/Exception"]).filter goodWord)
def wsX5_cancel_r1 : List Cond := [Cond.classLink RX5 88 "java/lang/IndexOutOfBoundsException", Cond.initialized "java/lang/IndexOutOfBoundsException", Cond.classLink RX5 77 "java/lang/IllegalStateException", Cond.initialized "java/lang/IllegalStateException", Cond.fieldLink RX5 10 "GainsReckoner" "journal" "LGainsReckoner$Journal;", Cond.fieldLink RX5 29 "GainsReckoner" "window" "I", Cond.methodLink RX5 33 yX5_ledgerAt, Cond.instanceMethod yX5_ledgerAt, Cond.selects RX5 yX5_ledgerAt yX5_ledgerAt, Cond.initialized RX5, Cond.code yX5_ledgerAt cX5_ledgerAt 4 (some (.object "GainsReckoner$Ledger")), Cond.methodLink RX5 139 yX5_ledgerOf, Cond.instanceMethod yX5_ledgerOf, Cond.selects RX5 yX5_ledgerOf yX5_ledgerOf, Cond.code yX5_ledgerOf cX5_ledgerOf 2 (some (.object "GainsReckoner$Ledger")), Cond.fieldLink RX5 18 "GainsReckoner" "ledgers" "[LGainsReckoner$Ledger;", Cond.methodLink RX5 52 yX5_checkCanSpare, Cond.static yX5_checkCanSpare, Cond.code yX5_checkCanSpare cX5_checkCanSpare 4 none, Cond.methodLink RX5 216 yX4_factorBetween, Cond.instanceMethod yX4_factorBetween, Cond.selects RX4 yX4_factorBetween yX4_factorBetween, Cond.initialized RX4, Cond.code yX4_factorBetween cX4_factorBetween 5 (some .int)]
def wsX5_cancel_r2 : List Cond := [Cond.fieldLink RX4 18 "GainsReckoner$Splits" "size" "I", Cond.fieldLink RX4 9 "GainsReckoner$Splits" "day" "[I", Cond.fieldLink RX4 15 "GainsReckoner$Splits" "factor" "[I", Cond.methodLink RX5 219 yX3_leastUnitsFrom, Cond.instanceMethod yX3_leastUnitsFrom, Cond.selects RX3 yX3_leastUnitsFrom yX3_leastUnitsFrom, Cond.initialized RX3, Cond.code yX3_leastUnitsFrom cX3_leastUnitsFrom 5 (some .int), Cond.fieldLink RX3 39 "GainsReckoner$Sheet" "size" "I", Cond.fieldLink RX3 9 "GainsReckoner$Sheet" "day" "[I", Cond.fieldLink RX3 15 "GainsReckoner$Sheet" "bought" "[I", Cond.fieldLink RX3 24 "GainsReckoner$Sheet" "sold" "[I", Cond.methodLink RX3 86 Lib.Math.min.name, Cond.static Lib.Math.min.name, Cond.initialized "java/lang/Math", Cond.code Lib.Math.min.name Lib.Math.min.code 2 (some .int), Cond.methodLink RX5 48 yX1_reckon, Cond.instanceMethod yX1_reckon, Cond.selects RX1 yX1_reckon yX1_reckon, Cond.initialized RX1, Cond.code yX1_reckon cX1_reckon 4 none, Cond.fieldLink RX1 21 "GainsReckoner$Ledger" "sheet" "LGainsReckoner$Sheet;", Cond.fieldLink RX1 32 "GainsReckoner$Ledger" "share" "I", Cond.fieldLink RX1 12 "GainsReckoner$Ledger" "splits" "LGainsReckoner$Splits;"]
def wsX5_cancel_r3 : List Cond := [Cond.fieldLink RX1 28 "GainsReckoner$Ledger" "matched" "LGainsReckoner$Matches;", Cond.methodLink RX1 36 yX3_fill, Cond.instanceMethod yX3_fill, Cond.selects RX3 yX3_fill yX3_fill, Cond.code yX3_fill cX3_fill 6 none, Cond.methodLink RX3 43 yX3_openRows, Cond.instanceMethod yX3_openRows, Cond.selects RX3 yX3_openRows yX3_openRows, Cond.code yX3_openRows cX3_openRows 4 none, Cond.fieldLink RX3 21 "GainsReckoner$Sheet" "cost" "[I", Cond.fieldLink RX3 30 "GainsReckoner$Sheet" "proceeds" "[I", Cond.methodLink RX3 50 yX0_counts, Cond.instanceMethod yX0_counts, Cond.selects RX0 yX0_counts yX0_counts, Cond.initialized RX0, Cond.code yX0_counts cX0_counts 3 (some .boolean), Cond.fieldLink RX0 18 "GainsReckoner$Journal" "share" "[I", Cond.fieldLink RX0 15 "GainsReckoner$Journal" "cancelled" "[Z", Cond.methodLink RX3 71 yX3_openRow, Cond.instanceMethod yX3_openRow, Cond.selects RX3 yX3_openRow yX3_openRow, Cond.code yX3_openRow cX3_openRow 4 none, Cond.methodLink RX3 75 yX3_lastRowUpTo, Cond.instanceMethod yX3_lastRowUpTo]
def wsX5_cancel_r4 : List Cond := [Cond.selects RX3 yX3_lastRowUpTo yX3_lastRowUpTo, Cond.code yX3_lastRowUpTo cX3_lastRowUpTo 4 (some .int), Cond.methodLink RX3 58 yX4_factorBetween, Cond.methodLink RX3 64 yX3_addTrade, Cond.instanceMethod yX3_addTrade, Cond.selects RX3 yX3_addTrade yX3_addTrade, Cond.code yX3_addTrade cX3_addTrade 5 none, Cond.methodLink RX3 68 yX3_setSameDaysAside, Cond.instanceMethod yX3_setSameDaysAside, Cond.selects RX3 yX3_setSameDaysAside yX3_setSameDaysAside, Cond.code yX3_setSameDaysAside cX3_setSameDaysAside 3 none, Cond.fieldLink RX3 18 "GainsReckoner$Sheet" "boughtGone" "[I", Cond.fieldLink RX3 27 "GainsReckoner$Sheet" "soldGone" "[I", Cond.methodLink RX1 44 yX1_matchSameDay, Cond.instanceMethod yX1_matchSameDay, Cond.selects RX1 yX1_matchSameDay yX1_matchSameDay, Cond.code yX1_matchSameDay cX1_matchSameDay 5 none, Cond.methodLink RX1 83 Lib.Math.min.name, Cond.static yX5_part, Cond.code yX5_part cX5_part 4 (some .int), Cond.methodLink RX1 99 yX2_add, Cond.instanceMethod yX2_add, Cond.selects RX2 yX2_add yX2_add, Cond.initialized RX2]
def wsX5_cancel_r5 : List Cond := [Cond.code yX2_add cX2_add 7 none, Cond.fieldLink RX2 30 "GainsReckoner$Matches" "size" "I", Cond.fieldLink RX2 9 "GainsReckoner$Matches" "kind" "[I", Cond.fieldLink RX2 15 "GainsReckoner$Matches" "soldOn" "[I", Cond.fieldLink RX2 18 "GainsReckoner$Matches" "boughtOn" "[I", Cond.fieldLink RX2 21 "GainsReckoner$Matches" "units" "[I", Cond.fieldLink RX2 24 "GainsReckoner$Matches" "cost" "[I", Cond.fieldLink RX2 27 "GainsReckoner$Matches" "proceeds" "[I", Cond.methodLink RX1 48 yX1_matchLaterDays, Cond.instanceMethod yX1_matchLaterDays, Cond.selects RX1 yX1_matchLaterDays yX1_matchLaterDays, Cond.code yX1_matchLaterDays cX1_matchLaterDays 9 none, Cond.methodLink RX1 109 yX1_takeBought, Cond.instanceMethod yX1_takeBought, Cond.selects RX1 yX1_takeBought yX1_takeBought, Cond.code yX1_takeBought cX1_takeBought 4 (some .int), Cond.methodLink RX1 112 yX1_takeSold, Cond.instanceMethod yX1_takeSold, Cond.selects RX1 yX1_takeSold yX1_takeSold, Cond.code yX1_takeSold cX1_takeSold 4 (some .int), Cond.methodLink RX1 52 yX1_pool, Cond.instanceMethod yX1_pool, Cond.selects RX1 yX1_pool yX1_pool, Cond.code yX1_pool cX1_pool 7 none]
def wsX5_cancel : List Cond := .code yX5_cancel cX5_cancel 3 none :: ((wsX5_cancel_r1 ++ (wsX5_cancel_r2 ++ (wsX5_cancel_r3 ++ (wsX5_cancel_r4 ++ wsX5_cancel_r5)))) ++ wsX50 ++ wsX00 ++ wsX10 ++ wsX40 ++ wsX30 ++ wsX20 ++ (vx_atS RX5 92 "java/lang/IndexOutOfBoundsException" ["java/lang/RuntimeException", "java/lang/Exception"]).filter goodWord ++ (vx_atS RX5 81 "java/lang/IllegalStateException" ["java/lang/RuntimeException", "java/lang/Exception"]).filter goodWord)
def wsX5_checkYear : List Cond := .code yX5_checkYear cX5_checkYear 1 none :: ([.classLink RX5 88 "java/lang/IndexOutOfBoundsException", .initialized "java/lang/IndexOutOfBoundsException"] ++ (vx_atS RX5 92 "java/lang/IndexOutOfBoundsException" ["java/lang/RuntimeException", "java/lang/Exception"]).filter goodWord)
def wsX5_setAllowance : List Cond := .code yX5_setAllowance cX5_setAllowance 4 (some .int) :: ([.fieldLink RX5 25 "GainsReckoner" "allowances" "[I", .methodLink RX5 111 yX5_checkYear, .static yX5_checkYear, .initialized RX5, .code yX5_checkYear cX5_checkYear 1 none, .classLink RX5 88 "java/lang/IndexOutOfBoundsException", .initialized "java/lang/IndexOutOfBoundsException", .methodLink RX5 114 yX5_checkMoney, .static yX5_checkMoney, .code yX5_checkMoney cX5_checkMoney 1 none, .classLink RX5 56 "java/lang/IllegalArgumentException", .initialized "java/lang/IllegalArgumentException", .constant RX5 213 (1000000)] ++ wsX50 ++ (vx_atS RX5 92 "java/lang/IndexOutOfBoundsException" ["java/lang/RuntimeException", "java/lang/Exception"]).filter goodWord ++ (vx_atS RX5 60 "java/lang/IllegalArgumentException" ["java/lang/RuntimeException", "java/lang/Exception"]).filter goodWord)
def wsX5_setWindow_r1 : List Cond := [Cond.classLink RX5 56 "java/lang/IllegalArgumentException", Cond.initialized "java/lang/IllegalArgumentException", Cond.fieldLink RX5 29 "GainsReckoner" "window" "I", Cond.fieldLink RX5 18 "GainsReckoner" "ledgers" "[LGainsReckoner$Ledger;", Cond.fieldLink RX5 10 "GainsReckoner" "journal" "LGainsReckoner$Journal;", Cond.methodLink RX5 48 yX1_reckon, Cond.instanceMethod yX1_reckon, Cond.selects RX1 yX1_reckon yX1_reckon, Cond.initialized RX1, Cond.code yX1_reckon cX1_reckon 4 none, Cond.fieldLink RX1 21 "GainsReckoner$Ledger" "sheet" "LGainsReckoner$Sheet;", Cond.fieldLink RX1 32 "GainsReckoner$Ledger" "share" "I", Cond.fieldLink RX1 12 "GainsReckoner$Ledger" "splits" "LGainsReckoner$Splits;", Cond.fieldLink RX1 28 "GainsReckoner$Ledger" "matched" "LGainsReckoner$Matches;", Cond.methodLink RX1 36 yX3_fill, Cond.instanceMethod yX3_fill, Cond.selects RX3 yX3_fill yX3_fill, Cond.initialized RX3, Cond.code yX3_fill cX3_fill 6 none, Cond.methodLink RX3 43 yX3_openRows, Cond.instanceMethod yX3_openRows, Cond.selects RX3 yX3_openRows yX3_openRows, Cond.code yX3_openRows cX3_openRows 4 none, Cond.fieldLink RX3 39 "GainsReckoner$Sheet" "size" "I"]
def wsX5_setWindow_r2 : List Cond := [Cond.fieldLink RX3 15 "GainsReckoner$Sheet" "bought" "[I", Cond.fieldLink RX3 21 "GainsReckoner$Sheet" "cost" "[I", Cond.fieldLink RX3 24 "GainsReckoner$Sheet" "sold" "[I", Cond.fieldLink RX3 30 "GainsReckoner$Sheet" "proceeds" "[I", Cond.methodLink RX3 50 yX0_counts, Cond.instanceMethod yX0_counts, Cond.selects RX0 yX0_counts yX0_counts, Cond.initialized RX0, Cond.code yX0_counts cX0_counts 3 (some .boolean), Cond.fieldLink RX0 18 "GainsReckoner$Journal" "share" "[I", Cond.fieldLink RX0 15 "GainsReckoner$Journal" "cancelled" "[Z", Cond.methodLink RX3 71 yX3_openRow, Cond.instanceMethod yX3_openRow, Cond.selects RX3 yX3_openRow yX3_openRow, Cond.code yX3_openRow cX3_openRow 4 none, Cond.fieldLink RX3 9 "GainsReckoner$Sheet" "day" "[I", Cond.methodLink RX3 75 yX3_lastRowUpTo, Cond.instanceMethod yX3_lastRowUpTo, Cond.selects RX3 yX3_lastRowUpTo yX3_lastRowUpTo, Cond.code yX3_lastRowUpTo cX3_lastRowUpTo 4 (some .int), Cond.methodLink RX3 58 yX4_factorBetween, Cond.instanceMethod yX4_factorBetween, Cond.selects RX4 yX4_factorBetween yX4_factorBetween, Cond.initialized RX4]
def wsX5_setWindow_r3 : List Cond := [Cond.code yX4_factorBetween cX4_factorBetween 5 (some .int), Cond.fieldLink RX4 18 "GainsReckoner$Splits" "size" "I", Cond.fieldLink RX4 9 "GainsReckoner$Splits" "day" "[I", Cond.fieldLink RX4 15 "GainsReckoner$Splits" "factor" "[I", Cond.methodLink RX3 64 yX3_addTrade, Cond.instanceMethod yX3_addTrade, Cond.selects RX3 yX3_addTrade yX3_addTrade, Cond.code yX3_addTrade cX3_addTrade 5 none, Cond.methodLink RX3 68 yX3_setSameDaysAside, Cond.instanceMethod yX3_setSameDaysAside, Cond.selects RX3 yX3_setSameDaysAside yX3_setSameDaysAside, Cond.code yX3_setSameDaysAside cX3_setSameDaysAside 3 none, Cond.methodLink RX3 86 Lib.Math.min.name, Cond.static Lib.Math.min.name, Cond.initialized "java/lang/Math", Cond.code Lib.Math.min.name Lib.Math.min.code 2 (some .int), Cond.fieldLink RX3 18 "GainsReckoner$Sheet" "boughtGone" "[I", Cond.fieldLink RX3 27 "GainsReckoner$Sheet" "soldGone" "[I", Cond.methodLink RX1 44 yX1_matchSameDay, Cond.instanceMethod yX1_matchSameDay, Cond.selects RX1 yX1_matchSameDay yX1_matchSameDay, Cond.code yX1_matchSameDay cX1_matchSameDay 5 none, Cond.methodLink RX1 83 Lib.Math.min.name, Cond.static yX5_part]
def wsX5_setWindow_r4 : List Cond := [Cond.initialized RX5, Cond.code yX5_part cX5_part 4 (some .int), Cond.methodLink RX1 99 yX2_add, Cond.instanceMethod yX2_add, Cond.selects RX2 yX2_add yX2_add, Cond.initialized RX2, Cond.code yX2_add cX2_add 7 none, Cond.fieldLink RX2 30 "GainsReckoner$Matches" "size" "I", Cond.fieldLink RX2 9 "GainsReckoner$Matches" "kind" "[I", Cond.fieldLink RX2 15 "GainsReckoner$Matches" "soldOn" "[I", Cond.fieldLink RX2 18 "GainsReckoner$Matches" "boughtOn" "[I", Cond.fieldLink RX2 21 "GainsReckoner$Matches" "units" "[I", Cond.fieldLink RX2 24 "GainsReckoner$Matches" "cost" "[I", Cond.fieldLink RX2 27 "GainsReckoner$Matches" "proceeds" "[I", Cond.methodLink RX1 48 yX1_matchLaterDays, Cond.instanceMethod yX1_matchLaterDays, Cond.selects RX1 yX1_matchLaterDays yX1_matchLaterDays, Cond.code yX1_matchLaterDays cX1_matchLaterDays 9 none, Cond.methodLink RX1 109 yX1_takeBought, Cond.instanceMethod yX1_takeBought, Cond.selects RX1 yX1_takeBought yX1_takeBought, Cond.code yX1_takeBought cX1_takeBought 4 (some .int), Cond.methodLink RX1 112 yX1_takeSold, Cond.instanceMethod yX1_takeSold]
def wsX5_setWindow_r5 : List Cond := [Cond.selects RX1 yX1_takeSold yX1_takeSold, Cond.code yX1_takeSold cX1_takeSold 4 (some .int), Cond.methodLink RX1 52 yX1_pool, Cond.instanceMethod yX1_pool, Cond.selects RX1 yX1_pool yX1_pool, Cond.code yX1_pool cX1_pool 7 none]
def wsX5_setWindow : List Cond := .code yX5_setWindow cX5_setWindow 4 (some .int) :: ((wsX5_setWindow_r1 ++ (wsX5_setWindow_r2 ++ (wsX5_setWindow_r3 ++ (wsX5_setWindow_r4 ++ wsX5_setWindow_r5)))) ++ wsX50 ++ wsX10 ++ wsX20 ++ wsX30 ++ wsX00 ++ wsX40 ++ (vx_atS RX5 60 "java/lang/IllegalArgumentException" ["java/lang/RuntimeException", "java/lang/Exception"]).filter goodWord)
def wsX5_trades : List Cond := .code yX5_trades cX5_trades 1 (some .int) :: ([.fieldLink RX5 10 "GainsReckoner" "journal" "LGainsReckoner$Journal;"] ++ wsX50 ++ wsX00)
def wsX5_holding_r1 : List Cond := [Cond.fieldLink RX5 10 "GainsReckoner" "journal" "LGainsReckoner$Journal;", Cond.methodLink RX5 33 yX5_ledgerAt, Cond.instanceMethod yX5_ledgerAt, Cond.selects RX5 yX5_ledgerAt yX5_ledgerAt, Cond.initialized RX5, Cond.code yX5_ledgerAt cX5_ledgerAt 4 (some (.object "GainsReckoner$Ledger")), Cond.classLink RX5 88 "java/lang/IndexOutOfBoundsException", Cond.initialized "java/lang/IndexOutOfBoundsException", Cond.methodLink RX5 139 yX5_ledgerOf, Cond.instanceMethod yX5_ledgerOf, Cond.selects RX5 yX5_ledgerOf yX5_ledgerOf, Cond.code yX5_ledgerOf cX5_ledgerOf 2 (some (.object "GainsReckoner$Ledger")), Cond.fieldLink RX5 18 "GainsReckoner" "ledgers" "[LGainsReckoner$Ledger;", Cond.methodLink RX5 119 yX1_heldShares, Cond.instanceMethod yX1_heldShares, Cond.selects RX1 yX1_heldShares yX1_heldShares, Cond.initialized RX1, Cond.code yX1_heldShares cX1_heldShares 7 (some .int), Cond.fieldLink RX1 32 "GainsReckoner$Ledger" "share" "I", Cond.fieldLink RX1 12 "GainsReckoner$Ledger" "splits" "LGainsReckoner$Splits;", Cond.methodLink RX1 62 yX0_counts, Cond.instanceMethod yX0_counts, Cond.selects RX0 yX0_counts yX0_counts, Cond.initialized RX0]
def wsX5_holding_r2 : List Cond := [Cond.code yX0_counts cX0_counts 3 (some .boolean), Cond.fieldLink RX0 18 "GainsReckoner$Journal" "share" "[I", Cond.fieldLink RX0 15 "GainsReckoner$Journal" "cancelled" "[Z", Cond.methodLink RX1 69 yX4_factorBetween, Cond.instanceMethod yX4_factorBetween, Cond.selects RX4 yX4_factorBetween yX4_factorBetween, Cond.initialized RX4, Cond.code yX4_factorBetween cX4_factorBetween 5 (some .int), Cond.fieldLink RX4 18 "GainsReckoner$Splits" "size" "I", Cond.fieldLink RX4 9 "GainsReckoner$Splits" "day" "[I", Cond.fieldLink RX4 15 "GainsReckoner$Splits" "factor" "[I"]
def wsX5_holding : List Cond := .code yX5_holding cX5_holding 3 (some .int) :: ((wsX5_holding_r1 ++ wsX5_holding_r2) ++ wsX50 ++ wsX00 ++ wsX10 ++ wsX40 ++ (vx_atS RX5 92 "java/lang/IndexOutOfBoundsException" ["java/lang/RuntimeException", "java/lang/Exception"]).filter goodWord)
def wsX5_poolUnits : List Cond := .code yX5_poolUnits cX5_poolUnits 5 (some .int) :: ([.methodLink RX5 33 yX5_ledgerAt, .instanceMethod yX5_ledgerAt, .selects RX5 yX5_ledgerAt yX5_ledgerAt, .initialized RX5, .code yX5_ledgerAt cX5_ledgerAt 4 (some (.object "GainsReckoner$Ledger")), .classLink RX5 88 "java/lang/IndexOutOfBoundsException", .initialized "java/lang/IndexOutOfBoundsException", .methodLink RX5 139 yX5_ledgerOf, .instanceMethod yX5_ledgerOf, .selects RX5 yX5_ledgerOf yX5_ledgerOf, .code yX5_ledgerOf cX5_ledgerOf 2 (some (.object "GainsReckoner$Ledger")), .fieldLink RX5 18 "GainsReckoner" "ledgers" "[LGainsReckoner$Ledger;", .methodLink RX5 127 yX3_lastRowUpTo, .instanceMethod yX3_lastRowUpTo, .selects RX3 yX3_lastRowUpTo yX3_lastRowUpTo, .initialized RX3, .code yX3_lastRowUpTo cX3_lastRowUpTo 4 (some .int), .fieldLink RX3 39 "GainsReckoner$Sheet" "size" "I", .fieldLink RX3 9 "GainsReckoner$Sheet" "day" "[I"] ++ wsX10 ++ wsX30 ++ wsX50 ++ (vx_atS RX5 92 "java/lang/IndexOutOfBoundsException" ["java/lang/RuntimeException", "java/lang/Exception"]).filter goodWord)
def wsX5_poolCost : List Cond := .code yX5_poolCost cX5_poolCost 5 (some .int) :: ([.methodLink RX5 33 yX5_ledgerAt, .instanceMethod yX5_ledgerAt, .selects RX5 yX5_ledgerAt yX5_ledgerAt, .initialized RX5, .code yX5_ledgerAt cX5_ledgerAt 4 (some (.object "GainsReckoner$Ledger")), .classLink RX5 88 "java/lang/IndexOutOfBoundsException", .initialized "java/lang/IndexOutOfBoundsException", .methodLink RX5 139 yX5_ledgerOf, .instanceMethod yX5_ledgerOf, .selects RX5 yX5_ledgerOf yX5_ledgerOf, .code yX5_ledgerOf cX5_ledgerOf 2 (some (.object "GainsReckoner$Ledger")), .fieldLink RX5 18 "GainsReckoner" "ledgers" "[LGainsReckoner$Ledger;", .methodLink RX5 127 yX3_lastRowUpTo, .instanceMethod yX3_lastRowUpTo, .selects RX3 yX3_lastRowUpTo yX3_lastRowUpTo, .initialized RX3, .code yX3_lastRowUpTo cX3_lastRowUpTo 4 (some .int), .fieldLink RX3 39 "GainsReckoner$Sheet" "size" "I", .fieldLink RX3 9 "GainsReckoner$Sheet" "day" "[I"] ++ wsX10 ++ wsX30 ++ wsX50 ++ (vx_atS RX5 92 "java/lang/IndexOutOfBoundsException" ["java/lang/RuntimeException", "java/lang/Exception"]).filter goodWord)
def wsX5_costIn : List Cond := .code yX5_costIn cX5_costIn 2 (some .int) :: ([.methodLink RX5 139 yX5_ledgerOf, .instanceMethod yX5_ledgerOf, .selects RX5 yX5_ledgerOf yX5_ledgerOf, .initialized RX5, .code yX5_ledgerOf cX5_ledgerOf 2 (some (.object "GainsReckoner$Ledger")), .classLink RX5 88 "java/lang/IndexOutOfBoundsException", .initialized "java/lang/IndexOutOfBoundsException", .fieldLink RX5 18 "GainsReckoner" "ledgers" "[LGainsReckoner$Ledger;", .methodLink RX5 143 yX3_costOfBuys, .instanceMethod yX3_costOfBuys, .selects RX3 yX3_costOfBuys yX3_costOfBuys, .initialized RX3, .code yX3_costOfBuys cX3_costOfBuys 3 (some .int), .fieldLink RX3 39 "GainsReckoner$Sheet" "size" "I", .fieldLink RX3 21 "GainsReckoner$Sheet" "cost" "[I"] ++ wsX10 ++ wsX50 ++ wsX30 ++ (vx_atS RX5 92 "java/lang/IndexOutOfBoundsException" ["java/lang/RuntimeException", "java/lang/Exception"]).filter goodWord)
def wsX5_costMatched : List Cond := .code yX5_costMatched cX5_costMatched 2 (some .int) :: ([.methodLink RX5 139 yX5_ledgerOf, .instanceMethod yX5_ledgerOf, .selects RX5 yX5_ledgerOf yX5_ledgerOf, .initialized RX5, .code yX5_ledgerOf cX5_ledgerOf 2 (some (.object "GainsReckoner$Ledger")), .classLink RX5 88 "java/lang/IndexOutOfBoundsException", .initialized "java/lang/IndexOutOfBoundsException", .fieldLink RX5 18 "GainsReckoner" "ledgers" "[LGainsReckoner$Ledger;", .methodLink RX5 151 yX2_costOfAll, .instanceMethod yX2_costOfAll, .selects RX2 yX2_costOfAll yX2_costOfAll, .initialized RX2, .code yX2_costOfAll cX2_costOfAll 3 (some .int), .fieldLink RX2 30 "GainsReckoner$Matches" "size" "I", .fieldLink RX2 24 "GainsReckoner$Matches" "cost" "[I"] ++ wsX10 ++ wsX50 ++ wsX20 ++ (vx_atS RX5 92 "java/lang/IndexOutOfBoundsException" ["java/lang/RuntimeException", "java/lang/Exception"]).filter goodWord)
def wsX5_matches : List Cond := .code yX5_matches cX5_matches 2 (some .int) :: ([.methodLink RX5 139 yX5_ledgerOf, .instanceMethod yX5_ledgerOf, .selects RX5 yX5_ledgerOf yX5_ledgerOf, .initialized RX5, .code yX5_ledgerOf cX5_ledgerOf 2 (some (.object "GainsReckoner$Ledger")), .classLink RX5 88 "java/lang/IndexOutOfBoundsException", .initialized "java/lang/IndexOutOfBoundsException", .fieldLink RX5 18 "GainsReckoner" "ledgers" "[LGainsReckoner$Ledger;"] ++ wsX10 ++ wsX20 ++ wsX50 ++ (vx_atS RX5 92 "java/lang/IndexOutOfBoundsException" ["java/lang/RuntimeException", "java/lang/Exception"]).filter goodWord)
def wsX5_matchesWith : List Cond := .code yX5_matchesWith cX5_matchesWith 4 (some (.object "GainsReckoner$Matches")) :: ([.classLink RX5 88 "java/lang/IndexOutOfBoundsException", .initialized "java/lang/IndexOutOfBoundsException", .methodLink RX5 139 yX5_ledgerOf, .instanceMethod yX5_ledgerOf, .selects RX5 yX5_ledgerOf yX5_ledgerOf, .initialized RX5, .code yX5_ledgerOf cX5_ledgerOf 2 (some (.object "GainsReckoner$Ledger")), .fieldLink RX5 18 "GainsReckoner" "ledgers" "[LGainsReckoner$Ledger;"] ++ wsX10 ++ wsX20 ++ wsX50 ++ (vx_atS RX5 92 "java/lang/IndexOutOfBoundsException" ["java/lang/RuntimeException", "java/lang/Exception"]).filter goodWord)
def wsX5_kindOf : List Cond := .code yX5_kindOf cX5_kindOf 3 (some .int) :: ([.methodLink RX5 157 yX5_matchesWith, .instanceMethod yX5_matchesWith, .selects RX5 yX5_matchesWith yX5_matchesWith, .initialized RX5, .code yX5_matchesWith cX5_matchesWith 4 (some (.object "GainsReckoner$Matches")), .classLink RX5 88 "java/lang/IndexOutOfBoundsException", .initialized "java/lang/IndexOutOfBoundsException", .methodLink RX5 139 yX5_ledgerOf, .instanceMethod yX5_ledgerOf, .selects RX5 yX5_ledgerOf yX5_ledgerOf, .code yX5_ledgerOf cX5_ledgerOf 2 (some (.object "GainsReckoner$Ledger")), .fieldLink RX5 18 "GainsReckoner" "ledgers" "[LGainsReckoner$Ledger;"] ++ wsX20 ++ wsX10 ++ wsX50 ++ (vx_atS RX5 92 "java/lang/IndexOutOfBoundsException" ["java/lang/RuntimeException", "java/lang/Exception"]).filter goodWord)
def wsX5_saleDay : List Cond := .code yX5_saleDay cX5_saleDay 3 (some .int) :: ([.methodLink RX5 157 yX5_matchesWith, .instanceMethod yX5_matchesWith, .selects RX5 yX5_matchesWith yX5_matchesWith, .initialized RX5, .code yX5_matchesWith cX5_matchesWith 4 (some (.object "GainsReckoner$Matches")), .classLink RX5 88 "java/lang/IndexOutOfBoundsException", .initialized "java/lang/IndexOutOfBoundsException", .methodLink RX5 139 yX5_ledgerOf, .instanceMethod yX5_ledgerOf, .selects RX5 yX5_ledgerOf yX5_ledgerOf, .code yX5_ledgerOf cX5_ledgerOf 2 (some (.object "GainsReckoner$Ledger")), .fieldLink RX5 18 "GainsReckoner" "ledgers" "[LGainsReckoner$Ledger;"] ++ wsX20 ++ wsX10 ++ wsX50 ++ (vx_atS RX5 92 "java/lang/IndexOutOfBoundsException" ["java/lang/RuntimeException", "java/lang/Exception"]).filter goodWord)
def wsX5_buyDay : List Cond := .code yX5_buyDay cX5_buyDay 3 (some .int) :: ([.methodLink RX5 157 yX5_matchesWith, .instanceMethod yX5_matchesWith, .selects RX5 yX5_matchesWith yX5_matchesWith, .initialized RX5, .code yX5_matchesWith cX5_matchesWith 4 (some (.object "GainsReckoner$Matches")), .classLink RX5 88 "java/lang/IndexOutOfBoundsException", .initialized "java/lang/IndexOutOfBoundsException", .methodLink RX5 139 yX5_ledgerOf, .instanceMethod yX5_ledgerOf, .selects RX5 yX5_ledgerOf yX5_ledgerOf, .code yX5_ledgerOf cX5_ledgerOf 2 (some (.object "GainsReckoner$Ledger")), .fieldLink RX5 18 "GainsReckoner" "ledgers" "[LGainsReckoner$Ledger;"] ++ wsX20 ++ wsX10 ++ wsX50 ++ (vx_atS RX5 92 "java/lang/IndexOutOfBoundsException" ["java/lang/RuntimeException", "java/lang/Exception"]).filter goodWord)
def wsX5_unitsOf : List Cond := .code yX5_unitsOf cX5_unitsOf 3 (some .int) :: ([.methodLink RX5 157 yX5_matchesWith, .instanceMethod yX5_matchesWith, .selects RX5 yX5_matchesWith yX5_matchesWith, .initialized RX5, .code yX5_matchesWith cX5_matchesWith 4 (some (.object "GainsReckoner$Matches")), .classLink RX5 88 "java/lang/IndexOutOfBoundsException", .initialized "java/lang/IndexOutOfBoundsException", .methodLink RX5 139 yX5_ledgerOf, .instanceMethod yX5_ledgerOf, .selects RX5 yX5_ledgerOf yX5_ledgerOf, .code yX5_ledgerOf cX5_ledgerOf 2 (some (.object "GainsReckoner$Ledger")), .fieldLink RX5 18 "GainsReckoner" "ledgers" "[LGainsReckoner$Ledger;"] ++ wsX20 ++ wsX10 ++ wsX50 ++ (vx_atS RX5 92 "java/lang/IndexOutOfBoundsException" ["java/lang/RuntimeException", "java/lang/Exception"]).filter goodWord)
def wsX5_costOf : List Cond := .code yX5_costOf cX5_costOf 3 (some .int) :: ([.methodLink RX5 157 yX5_matchesWith, .instanceMethod yX5_matchesWith, .selects RX5 yX5_matchesWith yX5_matchesWith, .initialized RX5, .code yX5_matchesWith cX5_matchesWith 4 (some (.object "GainsReckoner$Matches")), .classLink RX5 88 "java/lang/IndexOutOfBoundsException", .initialized "java/lang/IndexOutOfBoundsException", .methodLink RX5 139 yX5_ledgerOf, .instanceMethod yX5_ledgerOf, .selects RX5 yX5_ledgerOf yX5_ledgerOf, .code yX5_ledgerOf cX5_ledgerOf 2 (some (.object "GainsReckoner$Ledger")), .fieldLink RX5 18 "GainsReckoner" "ledgers" "[LGainsReckoner$Ledger;"] ++ wsX20 ++ wsX10 ++ wsX50 ++ (vx_atS RX5 92 "java/lang/IndexOutOfBoundsException" ["java/lang/RuntimeException", "java/lang/Exception"]).filter goodWord)
def wsX5_proceedsOf : List Cond := .code yX5_proceedsOf cX5_proceedsOf 3 (some .int) :: ([.methodLink RX5 157 yX5_matchesWith, .instanceMethod yX5_matchesWith, .selects RX5 yX5_matchesWith yX5_matchesWith, .initialized RX5, .code yX5_matchesWith cX5_matchesWith 4 (some (.object "GainsReckoner$Matches")), .classLink RX5 88 "java/lang/IndexOutOfBoundsException", .initialized "java/lang/IndexOutOfBoundsException", .methodLink RX5 139 yX5_ledgerOf, .instanceMethod yX5_ledgerOf, .selects RX5 yX5_ledgerOf yX5_ledgerOf, .code yX5_ledgerOf cX5_ledgerOf 2 (some (.object "GainsReckoner$Ledger")), .fieldLink RX5 18 "GainsReckoner" "ledgers" "[LGainsReckoner$Ledger;"] ++ wsX20 ++ wsX10 ++ wsX50 ++ (vx_atS RX5 92 "java/lang/IndexOutOfBoundsException" ["java/lang/RuntimeException", "java/lang/Exception"]).filter goodWord)
def wsX5_gain : List Cond := .code yX5_gain cX5_gain 4 (some .int) :: ([.methodLink RX5 139 yX5_ledgerOf, .instanceMethod yX5_ledgerOf, .selects RX5 yX5_ledgerOf yX5_ledgerOf, .initialized RX5, .code yX5_ledgerOf cX5_ledgerOf 2 (some (.object "GainsReckoner$Ledger")), .classLink RX5 88 "java/lang/IndexOutOfBoundsException", .initialized "java/lang/IndexOutOfBoundsException", .fieldLink RX5 18 "GainsReckoner" "ledgers" "[LGainsReckoner$Ledger;", .methodLink RX5 111 yX5_checkYear, .static yX5_checkYear, .code yX5_checkYear cX5_checkYear 1 none, .methodLink RX5 179 yX2_gainOfYear, .instanceMethod yX2_gainOfYear, .selects RX2 yX2_gainOfYear yX2_gainOfYear, .initialized RX2, .code yX2_gainOfYear cX2_gainOfYear 4 (some .int), .fieldLink RX2 30 "GainsReckoner$Matches" "size" "I", .fieldLink RX2 15 "GainsReckoner$Matches" "soldOn" "[I", .fieldLink RX2 27 "GainsReckoner$Matches" "proceeds" "[I", .fieldLink RX2 24 "GainsReckoner$Matches" "cost" "[I"] ++ wsX10 ++ wsX50 ++ wsX20 ++ (vx_atS RX5 92 "java/lang/IndexOutOfBoundsException" ["java/lang/RuntimeException", "java/lang/Exception"]).filter goodWord)
def wsX5_netOfYear : List Cond := .code yX5_netOfYear cX5_netOfYear 4 (some .int) :: ([.fieldLink RX5 18 "GainsReckoner" "ledgers" "[LGainsReckoner$Ledger;", .methodLink RX5 179 yX2_gainOfYear, .instanceMethod yX2_gainOfYear, .selects RX2 yX2_gainOfYear yX2_gainOfYear, .initialized RX2, .code yX2_gainOfYear cX2_gainOfYear 4 (some .int), .fieldLink RX2 30 "GainsReckoner$Matches" "size" "I", .fieldLink RX2 15 "GainsReckoner$Matches" "soldOn" "[I", .fieldLink RX2 27 "GainsReckoner$Matches" "proceeds" "[I", .fieldLink RX2 24 "GainsReckoner$Matches" "cost" "[I"] ++ wsX50 ++ wsX10 ++ wsX20)
def wsX5_net : List Cond := .code yX5_net cX5_net 2 (some .int) :: ([.methodLink RX5 111 yX5_checkYear, .static yX5_checkYear, .initialized RX5, .code yX5_checkYear cX5_checkYear 1 none, .classLink RX5 88 "java/lang/IndexOutOfBoundsException", .initialized "java/lang/IndexOutOfBoundsException", .methodLink RX5 182 yX5_netOfYear, .instanceMethod yX5_netOfYear, .selects RX5 yX5_netOfYear yX5_netOfYear, .code yX5_netOfYear cX5_netOfYear 4 (some .int), .fieldLink RX5 18 "GainsReckoner" "ledgers" "[LGainsReckoner$Ledger;", .methodLink RX5 179 yX2_gainOfYear, .instanceMethod yX2_gainOfYear, .selects RX2 yX2_gainOfYear yX2_gainOfYear, .initialized RX2, .code yX2_gainOfYear cX2_gainOfYear 4 (some .int), .fieldLink RX2 30 "GainsReckoner$Matches" "size" "I", .fieldLink RX2 15 "GainsReckoner$Matches" "soldOn" "[I", .fieldLink RX2 27 "GainsReckoner$Matches" "proceeds" "[I", .fieldLink RX2 24 "GainsReckoner$Matches" "cost" "[I"] ++ wsX50 ++ wsX10 ++ wsX20 ++ (vx_atS RX5 92 "java/lang/IndexOutOfBoundsException" ["java/lang/RuntimeException", "java/lang/Exception"]).filter goodWord)
def wsX5_aboveAllowance : List Cond := .code yX5_aboveAllowance cX5_aboveAllowance 2 (some .int) :: ([.fieldLink RX5 25 "GainsReckoner" "allowances" "[I", .methodLink RX5 197 Lib.Math.max.name, .static Lib.Math.max.name, .initialized "java/lang/Math", .code Lib.Math.max.name Lib.Math.max.code 2 (some .int), .methodLink RX5 182 yX5_netOfYear, .instanceMethod yX5_netOfYear, .selects RX5 yX5_netOfYear yX5_netOfYear, .initialized RX5, .code yX5_netOfYear cX5_netOfYear 4 (some .int), .fieldLink RX5 18 "GainsReckoner" "ledgers" "[LGainsReckoner$Ledger;", .methodLink RX5 179 yX2_gainOfYear, .instanceMethod yX2_gainOfYear, .selects RX2 yX2_gainOfYear yX2_gainOfYear, .initialized RX2, .code yX2_gainOfYear cX2_gainOfYear 4 (some .int), .fieldLink RX2 30 "GainsReckoner$Matches" "size" "I", .fieldLink RX2 15 "GainsReckoner$Matches" "soldOn" "[I", .fieldLink RX2 27 "GainsReckoner$Matches" "proceeds" "[I", .fieldLink RX2 24 "GainsReckoner$Matches" "cost" "[I"] ++ wsX50 ++ wsX10 ++ wsX20)
def wsX5_lossesOutOf_r1 : List Cond := [Cond.methodLink RX5 191 Lib.Math.min.name, Cond.static Lib.Math.min.name, Cond.initialized "java/lang/Math", Cond.code Lib.Math.min.name Lib.Math.min.code 2 (some .int), Cond.methodLink RX5 182 yX5_netOfYear, Cond.instanceMethod yX5_netOfYear, Cond.selects RX5 yX5_netOfYear yX5_netOfYear, Cond.initialized RX5, Cond.code yX5_netOfYear cX5_netOfYear 4 (some .int), Cond.fieldLink RX5 18 "GainsReckoner" "ledgers" "[LGainsReckoner$Ledger;", Cond.methodLink RX5 179 yX2_gainOfYear, Cond.instanceMethod yX2_gainOfYear, Cond.selects RX2 yX2_gainOfYear yX2_gainOfYear, Cond.initialized RX2, Cond.code yX2_gainOfYear cX2_gainOfYear 4 (some .int), Cond.fieldLink RX2 30 "GainsReckoner$Matches" "size" "I", Cond.fieldLink RX2 15 "GainsReckoner$Matches" "soldOn" "[I", Cond.fieldLink RX2 27 "GainsReckoner$Matches" "proceeds" "[I", Cond.fieldLink RX2 24 "GainsReckoner$Matches" "cost" "[I", Cond.methodLink RX5 188 yX5_aboveAllowance, Cond.instanceMethod yX5_aboveAllowance, Cond.selects RX5 yX5_aboveAllowance yX5_aboveAllowance, Cond.code yX5_aboveAllowance cX5_aboveAllowance 2 (some .int), Cond.fieldLink RX5 25 "GainsReckoner" "allowances" "[I"]
def wsX5_lossesOutOf_r2 : List Cond := [Cond.methodLink RX5 197 Lib.Math.max.name, Cond.static Lib.Math.max.name, Cond.code Lib.Math.max.name Lib.Math.max.code 2 (some .int)]
def wsX5_lossesOutOf : List Cond := .code yX5_lossesOutOf cX5_lossesOutOf 5 (some .int) :: ((wsX5_lossesOutOf_r1 ++ wsX5_lossesOutOf_r2) ++ wsX50 ++ wsX10 ++ wsX20)
def wsX5_carried_r1 : List Cond := [Cond.methodLink RX5 111 yX5_checkYear, Cond.static yX5_checkYear, Cond.initialized RX5, Cond.code yX5_checkYear cX5_checkYear 1 none, Cond.classLink RX5 88 "java/lang/IndexOutOfBoundsException", Cond.initialized "java/lang/IndexOutOfBoundsException", Cond.methodLink RX5 185 yX5_lossesOutOf, Cond.instanceMethod yX5_lossesOutOf, Cond.selects RX5 yX5_lossesOutOf yX5_lossesOutOf, Cond.code yX5_lossesOutOf cX5_lossesOutOf 5 (some .int), Cond.methodLink RX5 191 Lib.Math.min.name, Cond.static Lib.Math.min.name, Cond.initialized "java/lang/Math", Cond.code Lib.Math.min.name Lib.Math.min.code 2 (some .int), Cond.methodLink RX5 182 yX5_netOfYear, Cond.instanceMethod yX5_netOfYear, Cond.selects RX5 yX5_netOfYear yX5_netOfYear, Cond.code yX5_netOfYear cX5_netOfYear 4 (some .int), Cond.fieldLink RX5 18 "GainsReckoner" "ledgers" "[LGainsReckoner$Ledger;", Cond.methodLink RX5 179 yX2_gainOfYear, Cond.instanceMethod yX2_gainOfYear, Cond.selects RX2 yX2_gainOfYear yX2_gainOfYear, Cond.initialized RX2, Cond.code yX2_gainOfYear cX2_gainOfYear 4 (some .int)]
def wsX5_carried_r2 : List Cond := [Cond.fieldLink RX2 30 "GainsReckoner$Matches" "size" "I", Cond.fieldLink RX2 15 "GainsReckoner$Matches" "soldOn" "[I", Cond.fieldLink RX2 27 "GainsReckoner$Matches" "proceeds" "[I", Cond.fieldLink RX2 24 "GainsReckoner$Matches" "cost" "[I", Cond.methodLink RX5 188 yX5_aboveAllowance, Cond.instanceMethod yX5_aboveAllowance, Cond.selects RX5 yX5_aboveAllowance yX5_aboveAllowance, Cond.code yX5_aboveAllowance cX5_aboveAllowance 2 (some .int), Cond.fieldLink RX5 25 "GainsReckoner" "allowances" "[I", Cond.methodLink RX5 197 Lib.Math.max.name, Cond.static Lib.Math.max.name, Cond.code Lib.Math.max.name Lib.Math.max.code 2 (some .int)]
def wsX5_carried : List Cond := .code yX5_carried cX5_carried 2 (some .int) :: ((wsX5_carried_r1 ++ wsX5_carried_r2) ++ wsX50 ++ wsX10 ++ wsX20 ++ (vx_atS RX5 92 "java/lang/IndexOutOfBoundsException" ["java/lang/RuntimeException", "java/lang/Exception"]).filter goodWord)
def wsX5_taxable_r1 : List Cond := [Cond.methodLink RX5 191 Lib.Math.min.name, Cond.static Lib.Math.min.name, Cond.initialized "java/lang/Math", Cond.code Lib.Math.min.name Lib.Math.min.code 2 (some .int), Cond.methodLink RX5 111 yX5_checkYear, Cond.static yX5_checkYear, Cond.initialized RX5, Cond.code yX5_checkYear cX5_checkYear 1 none, Cond.classLink RX5 88 "java/lang/IndexOutOfBoundsException", Cond.initialized "java/lang/IndexOutOfBoundsException", Cond.methodLink RX5 188 yX5_aboveAllowance, Cond.instanceMethod yX5_aboveAllowance, Cond.selects RX5 yX5_aboveAllowance yX5_aboveAllowance, Cond.code yX5_aboveAllowance cX5_aboveAllowance 2 (some .int), Cond.fieldLink RX5 25 "GainsReckoner" "allowances" "[I", Cond.methodLink RX5 197 Lib.Math.max.name, Cond.static Lib.Math.max.name, Cond.code Lib.Math.max.name Lib.Math.max.code 2 (some .int), Cond.methodLink RX5 182 yX5_netOfYear, Cond.instanceMethod yX5_netOfYear, Cond.selects RX5 yX5_netOfYear yX5_netOfYear, Cond.code yX5_netOfYear cX5_netOfYear 4 (some .int), Cond.fieldLink RX5 18 "GainsReckoner" "ledgers" "[LGainsReckoner$Ledger;", Cond.methodLink RX5 179 yX2_gainOfYear]
def wsX5_taxable_r2 : List Cond := [Cond.instanceMethod yX2_gainOfYear, Cond.selects RX2 yX2_gainOfYear yX2_gainOfYear, Cond.initialized RX2, Cond.code yX2_gainOfYear cX2_gainOfYear 4 (some .int), Cond.fieldLink RX2 30 "GainsReckoner$Matches" "size" "I", Cond.fieldLink RX2 15 "GainsReckoner$Matches" "soldOn" "[I", Cond.fieldLink RX2 27 "GainsReckoner$Matches" "proceeds" "[I", Cond.fieldLink RX2 24 "GainsReckoner$Matches" "cost" "[I", Cond.methodLink RX5 185 yX5_lossesOutOf, Cond.instanceMethod yX5_lossesOutOf, Cond.selects RX5 yX5_lossesOutOf yX5_lossesOutOf, Cond.code yX5_lossesOutOf cX5_lossesOutOf 5 (some .int)]
def wsX5_taxable : List Cond := .code yX5_taxable cX5_taxable 3 (some .int) :: ((wsX5_taxable_r1 ++ wsX5_taxable_r2) ++ wsX50 ++ wsX10 ++ wsX20 ++ (vx_atS RX5 92 "java/lang/IndexOutOfBoundsException" ["java/lang/RuntimeException", "java/lang/Exception"]).filter goodWord)
def wsX6_init_r1 : List Cond := [Cond.methodLink RX6 1 objectInit, Cond.instanceMethod objectInit, Cond.code objectInit ⟨#[0xb1]⟩ 1 none, Cond.arrayClass .int, Cond.fieldLink RX6 7 "GainsReckonerModel" "share" "[I", Cond.fieldLink RX6 13 "GainsReckonerModel" "day" "[I", Cond.fieldLink RX6 16 "GainsReckonerModel" "count" "[I", Cond.fieldLink RX6 19 "GainsReckonerModel" "money" "[I", Cond.arrayClass .boolean, Cond.fieldLink RX6 22 "GainsReckonerModel" "sale" "[Z", Cond.fieldLink RX6 26 "GainsReckonerModel" "gone" "[Z", Cond.fieldLink RX6 29 "GainsReckonerModel" "splits" "[I", Cond.fieldLink RX6 32 "GainsReckonerModel" "splitDay" "[I", Cond.fieldLink RX6 35 "GainsReckonerModel" "factor" "[I", Cond.fieldLink RX6 38 "GainsReckonerModel" "allowance" "[I", Cond.fieldLink RX6 41 "GainsReckonerModel" "window" "I", Cond.fieldLink RX6 45 "GainsReckonerModel" "date" "[I", Cond.arrayClass .long, Cond.fieldLink RX6 48 "GainsReckonerModel" "bought" "[J", Cond.fieldLink RX6 52 "GainsReckonerModel" "cost" "[J", Cond.fieldLink RX6 55 "GainsReckonerModel" "sold" "[J", Cond.fieldLink RX6 58 "GainsReckonerModel" "proceeds" "[J", Cond.fieldLink RX6 61 "GainsReckonerModel" "buyLeft" "[J", Cond.fieldLink RX6 64 "GainsReckonerModel" "saleLeft" "[J"]
def wsX6_init_r2 : List Cond := [Cond.fieldLink RX6 67 "GainsReckonerModel" "units" "[J", Cond.fieldLink RX6 70 "GainsReckonerModel" "value" "[J", Cond.fieldLink RX6 73 "GainsReckonerModel" "by" "[I", Cond.fieldLink RX6 76 "GainsReckonerModel" "from" "[I", Cond.fieldLink RX6 79 "GainsReckonerModel" "kind" "[I", Cond.fieldLink RX6 82 "GainsReckonerModel" "many" "[J", Cond.fieldLink RX6 85 "GainsReckonerModel" "matchCost" "[J", Cond.fieldLink RX6 88 "GainsReckonerModel" "matchProceeds" "[J"]
def wsX6_init : List Cond := .code yX6_init cX6_init 1 none :: ((wsX6_init_r1 ++ wsX6_init_r2) ++ wsX60)
def wsX6_thrown : List Cond := .code yX6_thrown cX6_thrown 1 (some .int) :: ([.fieldLink RX6 91 "GainsReckonerModel" "thrown" "I"] ++ wsX60)
def wsX6_isIn : List Cond := .code yX6_isIn cX6_isIn 3 (some .boolean) :: ([])
def wsX6_isShare : List Cond := .code yX6_isShare cX6_isShare 1 (some .boolean) :: ([.methodLink RX6 94 yX6_isIn, .static yX6_isIn, .initialized RX6, .code yX6_isIn cX6_isIn 3 (some .boolean)])
def wsX6_isDay : List Cond := .code yX6_isDay cX6_isDay 1 (some .boolean) :: ([.methodLink RX6 94 yX6_isIn, .static yX6_isIn, .initialized RX6, .code yX6_isIn cX6_isIn 3 (some .boolean)])
def wsX6_later : List Cond := .code yX6_later cX6_later 5 (some .int) :: ([.fieldLink RX6 29 "GainsReckonerModel" "splits" "[I", .fieldLink RX6 32 "GainsReckonerModel" "splitDay" "[I", .fieldLink RX6 35 "GainsReckonerModel" "factor" "[I"] ++ wsX60)
def wsX6_held : List Cond := .code yX6_held cX6_held 8 (some .long) :: ([.fieldLink RX6 98 "GainsReckonerModel" "trades" "I", .fieldLink RX6 26 "GainsReckonerModel" "gone" "[Z", .fieldLink RX6 7 "GainsReckonerModel" "share" "[I", .fieldLink RX6 13 "GainsReckonerModel" "day" "[I", .fieldLink RX6 16 "GainsReckonerModel" "count" "[I", .fieldLink RX6 22 "GainsReckonerModel" "sale" "[Z", .methodLink RX6 101 yX6_later, .instanceMethod yX6_later, .selects RX6 yX6_later yX6_later, .initialized RX6, .code yX6_later cX6_later 5 (some .int), .fieldLink RX6 29 "GainsReckonerModel" "splits" "[I", .fieldLink RX6 32 "GainsReckonerModel" "splitDay" "[I", .fieldLink RX6 35 "GainsReckonerModel" "factor" "[I"] ++ wsX60)
def wsX6_isBelow : List Cond := .code yX6_isBelow cX6_isBelow 4 (some .boolean) :: ([.fieldLink RX6 98 "GainsReckonerModel" "trades" "I", .fieldLink RX6 7 "GainsReckonerModel" "share" "[I", .fieldLink RX6 13 "GainsReckonerModel" "day" "[I", .methodLink RX6 105 yX6_held, .instanceMethod yX6_held, .selects RX6 yX6_held yX6_held, .initialized RX6, .code yX6_held cX6_held 8 (some .long), .fieldLink RX6 26 "GainsReckonerModel" "gone" "[Z", .fieldLink RX6 16 "GainsReckonerModel" "count" "[I", .fieldLink RX6 22 "GainsReckonerModel" "sale" "[Z", .methodLink RX6 101 yX6_later, .instanceMethod yX6_later, .selects RX6 yX6_later yX6_later, .code yX6_later cX6_later 5 (some .int), .fieldLink RX6 29 "GainsReckonerModel" "splits" "[I", .fieldLink RX6 32 "GainsReckonerModel" "splitDay" "[I", .fieldLink RX6 35 "GainsReckonerModel" "factor" "[I"] ++ wsX60)
def wsX6_enters_r1 : List Cond := [Cond.constant RX6 116 (1000000), Cond.fieldLink RX6 91 "GainsReckonerModel" "thrown" "I", Cond.fieldLink RX6 98 "GainsReckonerModel" "trades" "I", Cond.fieldLink RX6 7 "GainsReckonerModel" "share" "[I", Cond.fieldLink RX6 13 "GainsReckonerModel" "day" "[I", Cond.fieldLink RX6 16 "GainsReckonerModel" "count" "[I", Cond.fieldLink RX6 19 "GainsReckonerModel" "money" "[I", Cond.fieldLink RX6 22 "GainsReckonerModel" "sale" "[Z", Cond.fieldLink RX6 26 "GainsReckonerModel" "gone" "[Z", Cond.methodLink RX6 109 yX6_isShare, Cond.static yX6_isShare, Cond.initialized RX6, Cond.code yX6_isShare cX6_isShare 1 (some .boolean), Cond.methodLink RX6 94 yX6_isIn, Cond.static yX6_isIn, Cond.code yX6_isIn cX6_isIn 3 (some .boolean), Cond.methodLink RX6 113 yX6_isDay, Cond.static yX6_isDay, Cond.code yX6_isDay cX6_isDay 1 (some .boolean), Cond.methodLink RX6 117 yX6_isBelow, Cond.instanceMethod yX6_isBelow, Cond.selects RX6 yX6_isBelow yX6_isBelow, Cond.code yX6_isBelow cX6_isBelow 4 (some .boolean), Cond.methodLink RX6 105 yX6_held]
def wsX6_enters_r2 : List Cond := [Cond.instanceMethod yX6_held, Cond.selects RX6 yX6_held yX6_held, Cond.code yX6_held cX6_held 8 (some .long), Cond.methodLink RX6 101 yX6_later, Cond.instanceMethod yX6_later, Cond.selects RX6 yX6_later yX6_later, Cond.code yX6_later cX6_later 5 (some .int), Cond.fieldLink RX6 29 "GainsReckonerModel" "splits" "[I", Cond.fieldLink RX6 32 "GainsReckonerModel" "splitDay" "[I", Cond.fieldLink RX6 35 "GainsReckonerModel" "factor" "[I"]
def wsX6_enters : List Cond := .code yX6_enters cX6_enters 6 (some .int) :: ((wsX6_enters_r1 ++ wsX6_enters_r2) ++ wsX60)
def wsX6_buy_r1 : List Cond := [Cond.methodLink RX6 120 yX6_enters, Cond.instanceMethod yX6_enters, Cond.selects RX6 yX6_enters yX6_enters, Cond.initialized RX6, Cond.code yX6_enters cX6_enters 6 (some .int), Cond.constant RX6 116 (1000000), Cond.fieldLink RX6 91 "GainsReckonerModel" "thrown" "I", Cond.fieldLink RX6 98 "GainsReckonerModel" "trades" "I", Cond.fieldLink RX6 7 "GainsReckonerModel" "share" "[I", Cond.fieldLink RX6 13 "GainsReckonerModel" "day" "[I", Cond.fieldLink RX6 16 "GainsReckonerModel" "count" "[I", Cond.fieldLink RX6 19 "GainsReckonerModel" "money" "[I", Cond.fieldLink RX6 22 "GainsReckonerModel" "sale" "[Z", Cond.fieldLink RX6 26 "GainsReckonerModel" "gone" "[Z", Cond.methodLink RX6 109 yX6_isShare, Cond.static yX6_isShare, Cond.code yX6_isShare cX6_isShare 1 (some .boolean), Cond.methodLink RX6 94 yX6_isIn, Cond.static yX6_isIn, Cond.code yX6_isIn cX6_isIn 3 (some .boolean), Cond.methodLink RX6 113 yX6_isDay, Cond.static yX6_isDay, Cond.code yX6_isDay cX6_isDay 1 (some .boolean), Cond.methodLink RX6 117 yX6_isBelow]
def wsX6_buy_r2 : List Cond := [Cond.instanceMethod yX6_isBelow, Cond.selects RX6 yX6_isBelow yX6_isBelow, Cond.code yX6_isBelow cX6_isBelow 4 (some .boolean), Cond.methodLink RX6 105 yX6_held, Cond.instanceMethod yX6_held, Cond.selects RX6 yX6_held yX6_held, Cond.code yX6_held cX6_held 8 (some .long), Cond.methodLink RX6 101 yX6_later, Cond.instanceMethod yX6_later, Cond.selects RX6 yX6_later yX6_later, Cond.code yX6_later cX6_later 5 (some .int), Cond.fieldLink RX6 29 "GainsReckonerModel" "splits" "[I", Cond.fieldLink RX6 32 "GainsReckonerModel" "splitDay" "[I", Cond.fieldLink RX6 35 "GainsReckonerModel" "factor" "[I"]
def wsX6_buy : List Cond := .code yX6_buy cX6_buy 5 (some .int) :: ((wsX6_buy_r1 ++ wsX6_buy_r2) ++ wsX60)
def wsX6_sell_r1 : List Cond := [Cond.methodLink RX6 120 yX6_enters, Cond.instanceMethod yX6_enters, Cond.selects RX6 yX6_enters yX6_enters, Cond.initialized RX6, Cond.code yX6_enters cX6_enters 6 (some .int), Cond.constant RX6 116 (1000000), Cond.fieldLink RX6 91 "GainsReckonerModel" "thrown" "I", Cond.fieldLink RX6 98 "GainsReckonerModel" "trades" "I", Cond.fieldLink RX6 7 "GainsReckonerModel" "share" "[I", Cond.fieldLink RX6 13 "GainsReckonerModel" "day" "[I", Cond.fieldLink RX6 16 "GainsReckonerModel" "count" "[I", Cond.fieldLink RX6 19 "GainsReckonerModel" "money" "[I", Cond.fieldLink RX6 22 "GainsReckonerModel" "sale" "[Z", Cond.fieldLink RX6 26 "GainsReckonerModel" "gone" "[Z", Cond.methodLink RX6 109 yX6_isShare, Cond.static yX6_isShare, Cond.code yX6_isShare cX6_isShare 1 (some .boolean), Cond.methodLink RX6 94 yX6_isIn, Cond.static yX6_isIn, Cond.code yX6_isIn cX6_isIn 3 (some .boolean), Cond.methodLink RX6 113 yX6_isDay, Cond.static yX6_isDay, Cond.code yX6_isDay cX6_isDay 1 (some .boolean), Cond.methodLink RX6 117 yX6_isBelow]
def wsX6_sell_r2 : List Cond := [Cond.instanceMethod yX6_isBelow, Cond.selects RX6 yX6_isBelow yX6_isBelow, Cond.code yX6_isBelow cX6_isBelow 4 (some .boolean), Cond.methodLink RX6 105 yX6_held, Cond.instanceMethod yX6_held, Cond.selects RX6 yX6_held yX6_held, Cond.code yX6_held cX6_held 8 (some .long), Cond.methodLink RX6 101 yX6_later, Cond.instanceMethod yX6_later, Cond.selects RX6 yX6_later yX6_later, Cond.code yX6_later cX6_later 5 (some .int), Cond.fieldLink RX6 29 "GainsReckonerModel" "splits" "[I", Cond.fieldLink RX6 32 "GainsReckonerModel" "splitDay" "[I", Cond.fieldLink RX6 35 "GainsReckonerModel" "factor" "[I"]
def wsX6_sell : List Cond := .code yX6_sell cX6_sell 5 (some .int) :: ((wsX6_sell_r1 ++ wsX6_sell_r2) ++ wsX60)
def wsX6_split : List Cond := .code yX6_split cX6_split 6 (some .int) :: ([.fieldLink RX6 91 "GainsReckonerModel" "thrown" "I", .fieldLink RX6 29 "GainsReckonerModel" "splits" "[I", .fieldLink RX6 32 "GainsReckonerModel" "splitDay" "[I", .fieldLink RX6 35 "GainsReckonerModel" "factor" "[I", .methodLink RX6 109 yX6_isShare, .static yX6_isShare, .initialized RX6, .code yX6_isShare cX6_isShare 1 (some .boolean), .methodLink RX6 94 yX6_isIn, .static yX6_isIn, .code yX6_isIn cX6_isIn 3 (some .boolean), .methodLink RX6 113 yX6_isDay, .static yX6_isDay, .code yX6_isDay cX6_isDay 1 (some .boolean)] ++ wsX60)
def wsX6_cancel_r1 : List Cond := [Cond.fieldLink RX6 98 "GainsReckonerModel" "trades" "I", Cond.fieldLink RX6 26 "GainsReckonerModel" "gone" "[Z", Cond.fieldLink RX6 91 "GainsReckonerModel" "thrown" "I", Cond.fieldLink RX6 7 "GainsReckonerModel" "share" "[I", Cond.methodLink RX6 94 yX6_isIn, Cond.static yX6_isIn, Cond.initialized RX6, Cond.code yX6_isIn cX6_isIn 3 (some .boolean), Cond.methodLink RX6 117 yX6_isBelow, Cond.instanceMethod yX6_isBelow, Cond.selects RX6 yX6_isBelow yX6_isBelow, Cond.code yX6_isBelow cX6_isBelow 4 (some .boolean), Cond.fieldLink RX6 13 "GainsReckonerModel" "day" "[I", Cond.methodLink RX6 105 yX6_held, Cond.instanceMethod yX6_held, Cond.selects RX6 yX6_held yX6_held, Cond.code yX6_held cX6_held 8 (some .long), Cond.fieldLink RX6 16 "GainsReckonerModel" "count" "[I", Cond.fieldLink RX6 22 "GainsReckonerModel" "sale" "[Z", Cond.methodLink RX6 101 yX6_later, Cond.instanceMethod yX6_later, Cond.selects RX6 yX6_later yX6_later, Cond.code yX6_later cX6_later 5 (some .int), Cond.fieldLink RX6 29 "GainsReckonerModel" "splits" "[I"]
def wsX6_cancel_r2 : List Cond := [Cond.fieldLink RX6 32 "GainsReckonerModel" "splitDay" "[I", Cond.fieldLink RX6 35 "GainsReckonerModel" "factor" "[I"]
def wsX6_cancel : List Cond := .code yX6_cancel cX6_cancel 2 none :: ((wsX6_cancel_r1 ++ wsX6_cancel_r2) ++ wsX60)
def wsX6_setAllowance : List Cond := .code yX6_setAllowance cX6_setAllowance 4 (some .int) :: ([.constant RX6 116 (1000000), .fieldLink RX6 91 "GainsReckonerModel" "thrown" "I", .fieldLink RX6 38 "GainsReckonerModel" "allowance" "[I", .methodLink RX6 94 yX6_isIn, .static yX6_isIn, .initialized RX6, .code yX6_isIn cX6_isIn 3 (some .boolean)] ++ wsX60)
def wsX6_setWindow : List Cond := .code yX6_setWindow cX6_setWindow 3 (some .int) :: ([.fieldLink RX6 91 "GainsReckonerModel" "thrown" "I", .fieldLink RX6 41 "GainsReckonerModel" "window" "I", .methodLink RX6 94 yX6_isIn, .static yX6_isIn, .initialized RX6, .code yX6_isIn cX6_isIn 3 (some .boolean)] ++ wsX60)
def wsX6_laysDays : List Cond := .code yX6_laysDays cX6_laysDays 7 none :: ([.fieldLink RX6 124 "GainsReckonerModel" "days" "I", .fieldLink RX6 98 "GainsReckonerModel" "trades" "I", .fieldLink RX6 26 "GainsReckonerModel" "gone" "[Z", .fieldLink RX6 7 "GainsReckonerModel" "share" "[I", .fieldLink RX6 13 "GainsReckonerModel" "day" "[I", .fieldLink RX6 45 "GainsReckonerModel" "date" "[I", .fieldLink RX6 48 "GainsReckonerModel" "bought" "[J", .fieldLink RX6 52 "GainsReckonerModel" "cost" "[J", .fieldLink RX6 55 "GainsReckonerModel" "sold" "[J", .fieldLink RX6 58 "GainsReckonerModel" "proceeds" "[J", .fieldLink RX6 16 "GainsReckonerModel" "count" "[I", .fieldLink RX6 22 "GainsReckonerModel" "sale" "[Z", .fieldLink RX6 19 "GainsReckonerModel" "money" "[I", .fieldLink RX6 61 "GainsReckonerModel" "buyLeft" "[J", .fieldLink RX6 64 "GainsReckonerModel" "saleLeft" "[J", .methodLink RX6 101 yX6_later, .instanceMethod yX6_later, .selects RX6 yX6_later yX6_later, .initialized RX6, .code yX6_later cX6_later 5 (some .int), .fieldLink RX6 29 "GainsReckonerModel" "splits" "[I", .fieldLink RX6 32 "GainsReckonerModel" "splitDay" "[I", .fieldLink RX6 35 "GainsReckonerModel" "factor" "[I"] ++ wsX60)
def wsX6_part : List Cond := .code yX6_part cX6_part 8 (some .long) :: ([])
def wsX6_pairs : List Cond := .code yX6_pairs cX6_pairs 6 none :: ([.fieldLink RX6 64 "GainsReckonerModel" "saleLeft" "[J", .fieldLink RX6 61 "GainsReckonerModel" "buyLeft" "[J", .fieldLink RX6 73 "GainsReckonerModel" "by" "[I", .fieldLink RX6 127 "GainsReckonerModel" "made" "I", .fieldLink RX6 76 "GainsReckonerModel" "from" "[I", .fieldLink RX6 79 "GainsReckonerModel" "kind" "[I", .fieldLink RX6 82 "GainsReckonerModel" "many" "[J", .fieldLink RX6 85 "GainsReckonerModel" "matchCost" "[J", .fieldLink RX6 52 "GainsReckonerModel" "cost" "[J", .fieldLink RX6 48 "GainsReckonerModel" "bought" "[J", .fieldLink RX6 88 "GainsReckonerModel" "matchProceeds" "[J", .fieldLink RX6 58 "GainsReckonerModel" "proceeds" "[J", .fieldLink RX6 55 "GainsReckonerModel" "sold" "[J", .methodLink RX6 130 yX6_part, .static yX6_part, .initialized RX6, .code yX6_part cX6_part 8 (some .long)] ++ wsX60)
def wsX6_pools : List Cond := .code yX6_pools cX6_pools 8 none :: ([.fieldLink RX6 124 "GainsReckonerModel" "days" "I", .fieldLink RX6 61 "GainsReckonerModel" "buyLeft" "[J", .fieldLink RX6 52 "GainsReckonerModel" "cost" "[J", .fieldLink RX6 48 "GainsReckonerModel" "bought" "[J", .fieldLink RX6 64 "GainsReckonerModel" "saleLeft" "[J", .fieldLink RX6 73 "GainsReckonerModel" "by" "[I", .fieldLink RX6 127 "GainsReckonerModel" "made" "I", .fieldLink RX6 76 "GainsReckonerModel" "from" "[I", .fieldLink RX6 79 "GainsReckonerModel" "kind" "[I", .fieldLink RX6 82 "GainsReckonerModel" "many" "[J", .fieldLink RX6 85 "GainsReckonerModel" "matchCost" "[J", .fieldLink RX6 88 "GainsReckonerModel" "matchProceeds" "[J", .fieldLink RX6 58 "GainsReckonerModel" "proceeds" "[J", .fieldLink RX6 55 "GainsReckonerModel" "sold" "[J", .fieldLink RX6 67 "GainsReckonerModel" "units" "[J", .fieldLink RX6 70 "GainsReckonerModel" "value" "[J", .methodLink RX6 130 yX6_part, .static yX6_part, .initialized RX6, .code yX6_part cX6_part 8 (some .long)] ++ wsX60)
def wsX6_reckons_r1 : List Cond := [Cond.fieldLink RX6 127 "GainsReckonerModel" "made" "I", Cond.fieldLink RX6 124 "GainsReckonerModel" "days" "I", Cond.fieldLink RX6 45 "GainsReckonerModel" "date" "[I", Cond.fieldLink RX6 41 "GainsReckonerModel" "window" "I", Cond.methodLink RX6 134 yX6_laysDays, Cond.instanceMethod yX6_laysDays, Cond.selects RX6 yX6_laysDays yX6_laysDays, Cond.initialized RX6, Cond.code yX6_laysDays cX6_laysDays 7 none, Cond.fieldLink RX6 98 "GainsReckonerModel" "trades" "I", Cond.fieldLink RX6 26 "GainsReckonerModel" "gone" "[Z", Cond.fieldLink RX6 7 "GainsReckonerModel" "share" "[I", Cond.fieldLink RX6 13 "GainsReckonerModel" "day" "[I", Cond.fieldLink RX6 48 "GainsReckonerModel" "bought" "[J", Cond.fieldLink RX6 52 "GainsReckonerModel" "cost" "[J", Cond.fieldLink RX6 55 "GainsReckonerModel" "sold" "[J", Cond.fieldLink RX6 58 "GainsReckonerModel" "proceeds" "[J", Cond.fieldLink RX6 16 "GainsReckonerModel" "count" "[I", Cond.fieldLink RX6 22 "GainsReckonerModel" "sale" "[Z", Cond.fieldLink RX6 19 "GainsReckonerModel" "money" "[I", Cond.fieldLink RX6 61 "GainsReckonerModel" "buyLeft" "[J", Cond.fieldLink RX6 64 "GainsReckonerModel" "saleLeft" "[J", Cond.methodLink RX6 101 yX6_later, Cond.instanceMethod yX6_later]
def wsX6_reckons_r2 : List Cond := [Cond.selects RX6 yX6_later yX6_later, Cond.code yX6_later cX6_later 5 (some .int), Cond.fieldLink RX6 29 "GainsReckonerModel" "splits" "[I", Cond.fieldLink RX6 32 "GainsReckonerModel" "splitDay" "[I", Cond.fieldLink RX6 35 "GainsReckonerModel" "factor" "[I", Cond.methodLink RX6 138 yX6_pairs, Cond.instanceMethod yX6_pairs, Cond.selects RX6 yX6_pairs yX6_pairs, Cond.code yX6_pairs cX6_pairs 6 none, Cond.fieldLink RX6 73 "GainsReckonerModel" "by" "[I", Cond.fieldLink RX6 76 "GainsReckonerModel" "from" "[I", Cond.fieldLink RX6 79 "GainsReckonerModel" "kind" "[I", Cond.fieldLink RX6 82 "GainsReckonerModel" "many" "[J", Cond.fieldLink RX6 85 "GainsReckonerModel" "matchCost" "[J", Cond.fieldLink RX6 88 "GainsReckonerModel" "matchProceeds" "[J", Cond.methodLink RX6 130 yX6_part, Cond.static yX6_part, Cond.code yX6_part cX6_part 8 (some .long), Cond.methodLink RX6 142 yX6_pools, Cond.instanceMethod yX6_pools, Cond.selects RX6 yX6_pools yX6_pools, Cond.code yX6_pools cX6_pools 8 none, Cond.fieldLink RX6 67 "GainsReckonerModel" "units" "[J", Cond.fieldLink RX6 70 "GainsReckonerModel" "value" "[J"]
def wsX6_reckons : List Cond := .code yX6_reckons cX6_reckons 4 none :: ((wsX6_reckons_r1 ++ wsX6_reckons_r2) ++ wsX60)
def wsX6_trades : List Cond := .code yX6_trades cX6_trades 1 (some .int) :: ([.fieldLink RX6 91 "GainsReckonerModel" "thrown" "I", .fieldLink RX6 98 "GainsReckonerModel" "trades" "I"] ++ wsX60)
def wsX6_asks : List Cond := .code yX6_asks cX6_asks 3 (some .boolean) :: ([.fieldLink RX6 91 "GainsReckonerModel" "thrown" "I", .methodLink RX6 109 yX6_isShare, .static yX6_isShare, .initialized RX6, .code yX6_isShare cX6_isShare 1 (some .boolean), .methodLink RX6 94 yX6_isIn, .static yX6_isIn, .code yX6_isIn cX6_isIn 3 (some .boolean), .methodLink RX6 113 yX6_isDay, .static yX6_isDay, .code yX6_isDay cX6_isDay 1 (some .boolean)] ++ wsX60)
def wsX6_holding_r1 : List Cond := [Cond.methodLink RX6 145 yX6_asks, Cond.instanceMethod yX6_asks, Cond.selects RX6 yX6_asks yX6_asks, Cond.initialized RX6, Cond.code yX6_asks cX6_asks 3 (some .boolean), Cond.fieldLink RX6 91 "GainsReckonerModel" "thrown" "I", Cond.methodLink RX6 109 yX6_isShare, Cond.static yX6_isShare, Cond.code yX6_isShare cX6_isShare 1 (some .boolean), Cond.methodLink RX6 94 yX6_isIn, Cond.static yX6_isIn, Cond.code yX6_isIn cX6_isIn 3 (some .boolean), Cond.methodLink RX6 113 yX6_isDay, Cond.static yX6_isDay, Cond.code yX6_isDay cX6_isDay 1 (some .boolean), Cond.methodLink RX6 105 yX6_held, Cond.instanceMethod yX6_held, Cond.selects RX6 yX6_held yX6_held, Cond.code yX6_held cX6_held 8 (some .long), Cond.fieldLink RX6 98 "GainsReckonerModel" "trades" "I", Cond.fieldLink RX6 26 "GainsReckonerModel" "gone" "[Z", Cond.fieldLink RX6 7 "GainsReckonerModel" "share" "[I", Cond.fieldLink RX6 13 "GainsReckonerModel" "day" "[I", Cond.fieldLink RX6 16 "GainsReckonerModel" "count" "[I"]
def wsX6_holding_r2 : List Cond := [Cond.fieldLink RX6 22 "GainsReckonerModel" "sale" "[Z", Cond.methodLink RX6 101 yX6_later, Cond.instanceMethod yX6_later, Cond.selects RX6 yX6_later yX6_later, Cond.code yX6_later cX6_later 5 (some .int), Cond.fieldLink RX6 29 "GainsReckonerModel" "splits" "[I", Cond.fieldLink RX6 32 "GainsReckonerModel" "splitDay" "[I", Cond.fieldLink RX6 35 "GainsReckonerModel" "factor" "[I"]
def wsX6_holding : List Cond := .code yX6_holding cX6_holding 3 (some .int) :: ((wsX6_holding_r1 ++ wsX6_holding_r2) ++ wsX60)
def wsX6_placeOf : List Cond := .code yX6_placeOf cX6_placeOf 4 (some .int) :: ([.fieldLink RX6 124 "GainsReckonerModel" "days" "I", .fieldLink RX6 45 "GainsReckonerModel" "date" "[I"] ++ wsX60)
def wsX6_poolUnits_r1 : List Cond := [Cond.fieldLink RX6 67 "GainsReckonerModel" "units" "[J", Cond.methodLink RX6 145 yX6_asks, Cond.instanceMethod yX6_asks, Cond.selects RX6 yX6_asks yX6_asks, Cond.initialized RX6, Cond.code yX6_asks cX6_asks 3 (some .boolean), Cond.fieldLink RX6 91 "GainsReckonerModel" "thrown" "I", Cond.methodLink RX6 109 yX6_isShare, Cond.static yX6_isShare, Cond.code yX6_isShare cX6_isShare 1 (some .boolean), Cond.methodLink RX6 94 yX6_isIn, Cond.static yX6_isIn, Cond.code yX6_isIn cX6_isIn 3 (some .boolean), Cond.methodLink RX6 113 yX6_isDay, Cond.static yX6_isDay, Cond.code yX6_isDay cX6_isDay 1 (some .boolean), Cond.methodLink RX6 149 yX6_reckons, Cond.instanceMethod yX6_reckons, Cond.selects RX6 yX6_reckons yX6_reckons, Cond.code yX6_reckons cX6_reckons 4 none, Cond.fieldLink RX6 127 "GainsReckonerModel" "made" "I", Cond.fieldLink RX6 124 "GainsReckonerModel" "days" "I", Cond.fieldLink RX6 45 "GainsReckonerModel" "date" "[I", Cond.fieldLink RX6 41 "GainsReckonerModel" "window" "I"]
def wsX6_poolUnits_r2 : List Cond := [Cond.methodLink RX6 134 yX6_laysDays, Cond.instanceMethod yX6_laysDays, Cond.selects RX6 yX6_laysDays yX6_laysDays, Cond.code yX6_laysDays cX6_laysDays 7 none, Cond.fieldLink RX6 98 "GainsReckonerModel" "trades" "I", Cond.fieldLink RX6 26 "GainsReckonerModel" "gone" "[Z", Cond.fieldLink RX6 7 "GainsReckonerModel" "share" "[I", Cond.fieldLink RX6 13 "GainsReckonerModel" "day" "[I", Cond.fieldLink RX6 48 "GainsReckonerModel" "bought" "[J", Cond.fieldLink RX6 52 "GainsReckonerModel" "cost" "[J", Cond.fieldLink RX6 55 "GainsReckonerModel" "sold" "[J", Cond.fieldLink RX6 58 "GainsReckonerModel" "proceeds" "[J", Cond.fieldLink RX6 16 "GainsReckonerModel" "count" "[I", Cond.fieldLink RX6 22 "GainsReckonerModel" "sale" "[Z", Cond.fieldLink RX6 19 "GainsReckonerModel" "money" "[I", Cond.fieldLink RX6 61 "GainsReckonerModel" "buyLeft" "[J", Cond.fieldLink RX6 64 "GainsReckonerModel" "saleLeft" "[J", Cond.methodLink RX6 101 yX6_later, Cond.instanceMethod yX6_later, Cond.selects RX6 yX6_later yX6_later, Cond.code yX6_later cX6_later 5 (some .int), Cond.fieldLink RX6 29 "GainsReckonerModel" "splits" "[I", Cond.fieldLink RX6 32 "GainsReckonerModel" "splitDay" "[I", Cond.fieldLink RX6 35 "GainsReckonerModel" "factor" "[I"]
def wsX6_poolUnits_r3 : List Cond := [Cond.methodLink RX6 138 yX6_pairs, Cond.instanceMethod yX6_pairs, Cond.selects RX6 yX6_pairs yX6_pairs, Cond.code yX6_pairs cX6_pairs 6 none, Cond.fieldLink RX6 73 "GainsReckonerModel" "by" "[I", Cond.fieldLink RX6 76 "GainsReckonerModel" "from" "[I", Cond.fieldLink RX6 79 "GainsReckonerModel" "kind" "[I", Cond.fieldLink RX6 82 "GainsReckonerModel" "many" "[J", Cond.fieldLink RX6 85 "GainsReckonerModel" "matchCost" "[J", Cond.fieldLink RX6 88 "GainsReckonerModel" "matchProceeds" "[J", Cond.methodLink RX6 130 yX6_part, Cond.static yX6_part, Cond.code yX6_part cX6_part 8 (some .long), Cond.methodLink RX6 142 yX6_pools, Cond.instanceMethod yX6_pools, Cond.selects RX6 yX6_pools yX6_pools, Cond.code yX6_pools cX6_pools 8 none, Cond.fieldLink RX6 70 "GainsReckonerModel" "value" "[J", Cond.methodLink RX6 152 yX6_placeOf, Cond.instanceMethod yX6_placeOf, Cond.selects RX6 yX6_placeOf yX6_placeOf, Cond.code yX6_placeOf cX6_placeOf 4 (some .int)]
def wsX6_poolUnits : List Cond := .code yX6_poolUnits cX6_poolUnits 4 (some .int) :: ((wsX6_poolUnits_r1 ++ (wsX6_poolUnits_r2 ++ wsX6_poolUnits_r3)) ++ wsX60)
def wsX6_poolCost_r1 : List Cond := [Cond.fieldLink RX6 70 "GainsReckonerModel" "value" "[J", Cond.methodLink RX6 145 yX6_asks, Cond.instanceMethod yX6_asks, Cond.selects RX6 yX6_asks yX6_asks, Cond.initialized RX6, Cond.code yX6_asks cX6_asks 3 (some .boolean), Cond.fieldLink RX6 91 "GainsReckonerModel" "thrown" "I", Cond.methodLink RX6 109 yX6_isShare, Cond.static yX6_isShare, Cond.code yX6_isShare cX6_isShare 1 (some .boolean), Cond.methodLink RX6 94 yX6_isIn, Cond.static yX6_isIn, Cond.code yX6_isIn cX6_isIn 3 (some .boolean), Cond.methodLink RX6 113 yX6_isDay, Cond.static yX6_isDay, Cond.code yX6_isDay cX6_isDay 1 (some .boolean), Cond.methodLink RX6 149 yX6_reckons, Cond.instanceMethod yX6_reckons, Cond.selects RX6 yX6_reckons yX6_reckons, Cond.code yX6_reckons cX6_reckons 4 none, Cond.fieldLink RX6 127 "GainsReckonerModel" "made" "I", Cond.fieldLink RX6 124 "GainsReckonerModel" "days" "I", Cond.fieldLink RX6 45 "GainsReckonerModel" "date" "[I", Cond.fieldLink RX6 41 "GainsReckonerModel" "window" "I"]
def wsX6_poolCost_r2 : List Cond := [Cond.methodLink RX6 134 yX6_laysDays, Cond.instanceMethod yX6_laysDays, Cond.selects RX6 yX6_laysDays yX6_laysDays, Cond.code yX6_laysDays cX6_laysDays 7 none, Cond.fieldLink RX6 98 "GainsReckonerModel" "trades" "I", Cond.fieldLink RX6 26 "GainsReckonerModel" "gone" "[Z", Cond.fieldLink RX6 7 "GainsReckonerModel" "share" "[I", Cond.fieldLink RX6 13 "GainsReckonerModel" "day" "[I", Cond.fieldLink RX6 48 "GainsReckonerModel" "bought" "[J", Cond.fieldLink RX6 52 "GainsReckonerModel" "cost" "[J", Cond.fieldLink RX6 55 "GainsReckonerModel" "sold" "[J", Cond.fieldLink RX6 58 "GainsReckonerModel" "proceeds" "[J", Cond.fieldLink RX6 16 "GainsReckonerModel" "count" "[I", Cond.fieldLink RX6 22 "GainsReckonerModel" "sale" "[Z", Cond.fieldLink RX6 19 "GainsReckonerModel" "money" "[I", Cond.fieldLink RX6 61 "GainsReckonerModel" "buyLeft" "[J", Cond.fieldLink RX6 64 "GainsReckonerModel" "saleLeft" "[J", Cond.methodLink RX6 101 yX6_later, Cond.instanceMethod yX6_later, Cond.selects RX6 yX6_later yX6_later, Cond.code yX6_later cX6_later 5 (some .int), Cond.fieldLink RX6 29 "GainsReckonerModel" "splits" "[I", Cond.fieldLink RX6 32 "GainsReckonerModel" "splitDay" "[I", Cond.fieldLink RX6 35 "GainsReckonerModel" "factor" "[I"]
def wsX6_poolCost_r3 : List Cond := [Cond.methodLink RX6 138 yX6_pairs, Cond.instanceMethod yX6_pairs, Cond.selects RX6 yX6_pairs yX6_pairs, Cond.code yX6_pairs cX6_pairs 6 none, Cond.fieldLink RX6 73 "GainsReckonerModel" "by" "[I", Cond.fieldLink RX6 76 "GainsReckonerModel" "from" "[I", Cond.fieldLink RX6 79 "GainsReckonerModel" "kind" "[I", Cond.fieldLink RX6 82 "GainsReckonerModel" "many" "[J", Cond.fieldLink RX6 85 "GainsReckonerModel" "matchCost" "[J", Cond.fieldLink RX6 88 "GainsReckonerModel" "matchProceeds" "[J", Cond.methodLink RX6 130 yX6_part, Cond.static yX6_part, Cond.code yX6_part cX6_part 8 (some .long), Cond.methodLink RX6 142 yX6_pools, Cond.instanceMethod yX6_pools, Cond.selects RX6 yX6_pools yX6_pools, Cond.code yX6_pools cX6_pools 8 none, Cond.fieldLink RX6 67 "GainsReckonerModel" "units" "[J", Cond.methodLink RX6 152 yX6_placeOf, Cond.instanceMethod yX6_placeOf, Cond.selects RX6 yX6_placeOf yX6_placeOf, Cond.code yX6_placeOf cX6_placeOf 4 (some .int)]
def wsX6_poolCost : List Cond := .code yX6_poolCost cX6_poolCost 4 (some .int) :: ((wsX6_poolCost_r1 ++ (wsX6_poolCost_r2 ++ wsX6_poolCost_r3)) ++ wsX60)
def wsX6_costIn : List Cond := .code yX6_costIn cX6_costIn 4 (some .int) :: ([.fieldLink RX6 91 "GainsReckonerModel" "thrown" "I", .fieldLink RX6 98 "GainsReckonerModel" "trades" "I", .fieldLink RX6 26 "GainsReckonerModel" "gone" "[Z", .fieldLink RX6 7 "GainsReckonerModel" "share" "[I", .fieldLink RX6 22 "GainsReckonerModel" "sale" "[Z", .fieldLink RX6 19 "GainsReckonerModel" "money" "[I", .methodLink RX6 109 yX6_isShare, .static yX6_isShare, .initialized RX6, .code yX6_isShare cX6_isShare 1 (some .boolean), .methodLink RX6 94 yX6_isIn, .static yX6_isIn, .code yX6_isIn cX6_isIn 3 (some .boolean)] ++ wsX60)
def wsX6_costMatched_r1 : List Cond := [Cond.fieldLink RX6 91 "GainsReckonerModel" "thrown" "I", Cond.fieldLink RX6 127 "GainsReckonerModel" "made" "I", Cond.fieldLink RX6 85 "GainsReckonerModel" "matchCost" "[J", Cond.methodLink RX6 109 yX6_isShare, Cond.static yX6_isShare, Cond.initialized RX6, Cond.code yX6_isShare cX6_isShare 1 (some .boolean), Cond.methodLink RX6 94 yX6_isIn, Cond.static yX6_isIn, Cond.code yX6_isIn cX6_isIn 3 (some .boolean), Cond.methodLink RX6 149 yX6_reckons, Cond.instanceMethod yX6_reckons, Cond.selects RX6 yX6_reckons yX6_reckons, Cond.code yX6_reckons cX6_reckons 4 none, Cond.fieldLink RX6 124 "GainsReckonerModel" "days" "I", Cond.fieldLink RX6 45 "GainsReckonerModel" "date" "[I", Cond.fieldLink RX6 41 "GainsReckonerModel" "window" "I", Cond.methodLink RX6 134 yX6_laysDays, Cond.instanceMethod yX6_laysDays, Cond.selects RX6 yX6_laysDays yX6_laysDays, Cond.code yX6_laysDays cX6_laysDays 7 none, Cond.fieldLink RX6 98 "GainsReckonerModel" "trades" "I", Cond.fieldLink RX6 26 "GainsReckonerModel" "gone" "[Z", Cond.fieldLink RX6 7 "GainsReckonerModel" "share" "[I"]
def wsX6_costMatched_r2 : List Cond := [Cond.fieldLink RX6 13 "GainsReckonerModel" "day" "[I", Cond.fieldLink RX6 48 "GainsReckonerModel" "bought" "[J", Cond.fieldLink RX6 52 "GainsReckonerModel" "cost" "[J", Cond.fieldLink RX6 55 "GainsReckonerModel" "sold" "[J", Cond.fieldLink RX6 58 "GainsReckonerModel" "proceeds" "[J", Cond.fieldLink RX6 16 "GainsReckonerModel" "count" "[I", Cond.fieldLink RX6 22 "GainsReckonerModel" "sale" "[Z", Cond.fieldLink RX6 19 "GainsReckonerModel" "money" "[I", Cond.fieldLink RX6 61 "GainsReckonerModel" "buyLeft" "[J", Cond.fieldLink RX6 64 "GainsReckonerModel" "saleLeft" "[J", Cond.methodLink RX6 101 yX6_later, Cond.instanceMethod yX6_later, Cond.selects RX6 yX6_later yX6_later, Cond.code yX6_later cX6_later 5 (some .int), Cond.fieldLink RX6 29 "GainsReckonerModel" "splits" "[I", Cond.fieldLink RX6 32 "GainsReckonerModel" "splitDay" "[I", Cond.fieldLink RX6 35 "GainsReckonerModel" "factor" "[I", Cond.methodLink RX6 138 yX6_pairs, Cond.instanceMethod yX6_pairs, Cond.selects RX6 yX6_pairs yX6_pairs, Cond.code yX6_pairs cX6_pairs 6 none, Cond.fieldLink RX6 73 "GainsReckonerModel" "by" "[I", Cond.fieldLink RX6 76 "GainsReckonerModel" "from" "[I", Cond.fieldLink RX6 79 "GainsReckonerModel" "kind" "[I"]
def wsX6_costMatched_r3 : List Cond := [Cond.fieldLink RX6 82 "GainsReckonerModel" "many" "[J", Cond.fieldLink RX6 88 "GainsReckonerModel" "matchProceeds" "[J", Cond.methodLink RX6 130 yX6_part, Cond.static yX6_part, Cond.code yX6_part cX6_part 8 (some .long), Cond.methodLink RX6 142 yX6_pools, Cond.instanceMethod yX6_pools, Cond.selects RX6 yX6_pools yX6_pools, Cond.code yX6_pools cX6_pools 8 none, Cond.fieldLink RX6 67 "GainsReckonerModel" "units" "[J", Cond.fieldLink RX6 70 "GainsReckonerModel" "value" "[J"]
def wsX6_costMatched : List Cond := .code yX6_costMatched cX6_costMatched 5 (some .int) :: ((wsX6_costMatched_r1 ++ (wsX6_costMatched_r2 ++ wsX6_costMatched_r3)) ++ wsX60)
def wsX6_matches_r1 : List Cond := [Cond.fieldLink RX6 91 "GainsReckonerModel" "thrown" "I", Cond.fieldLink RX6 127 "GainsReckonerModel" "made" "I", Cond.methodLink RX6 109 yX6_isShare, Cond.static yX6_isShare, Cond.initialized RX6, Cond.code yX6_isShare cX6_isShare 1 (some .boolean), Cond.methodLink RX6 94 yX6_isIn, Cond.static yX6_isIn, Cond.code yX6_isIn cX6_isIn 3 (some .boolean), Cond.methodLink RX6 149 yX6_reckons, Cond.instanceMethod yX6_reckons, Cond.selects RX6 yX6_reckons yX6_reckons, Cond.code yX6_reckons cX6_reckons 4 none, Cond.fieldLink RX6 124 "GainsReckonerModel" "days" "I", Cond.fieldLink RX6 45 "GainsReckonerModel" "date" "[I", Cond.fieldLink RX6 41 "GainsReckonerModel" "window" "I", Cond.methodLink RX6 134 yX6_laysDays, Cond.instanceMethod yX6_laysDays, Cond.selects RX6 yX6_laysDays yX6_laysDays, Cond.code yX6_laysDays cX6_laysDays 7 none, Cond.fieldLink RX6 98 "GainsReckonerModel" "trades" "I", Cond.fieldLink RX6 26 "GainsReckonerModel" "gone" "[Z", Cond.fieldLink RX6 7 "GainsReckonerModel" "share" "[I", Cond.fieldLink RX6 13 "GainsReckonerModel" "day" "[I"]
def wsX6_matches_r2 : List Cond := [Cond.fieldLink RX6 48 "GainsReckonerModel" "bought" "[J", Cond.fieldLink RX6 52 "GainsReckonerModel" "cost" "[J", Cond.fieldLink RX6 55 "GainsReckonerModel" "sold" "[J", Cond.fieldLink RX6 58 "GainsReckonerModel" "proceeds" "[J", Cond.fieldLink RX6 16 "GainsReckonerModel" "count" "[I", Cond.fieldLink RX6 22 "GainsReckonerModel" "sale" "[Z", Cond.fieldLink RX6 19 "GainsReckonerModel" "money" "[I", Cond.fieldLink RX6 61 "GainsReckonerModel" "buyLeft" "[J", Cond.fieldLink RX6 64 "GainsReckonerModel" "saleLeft" "[J", Cond.methodLink RX6 101 yX6_later, Cond.instanceMethod yX6_later, Cond.selects RX6 yX6_later yX6_later, Cond.code yX6_later cX6_later 5 (some .int), Cond.fieldLink RX6 29 "GainsReckonerModel" "splits" "[I", Cond.fieldLink RX6 32 "GainsReckonerModel" "splitDay" "[I", Cond.fieldLink RX6 35 "GainsReckonerModel" "factor" "[I", Cond.methodLink RX6 138 yX6_pairs, Cond.instanceMethod yX6_pairs, Cond.selects RX6 yX6_pairs yX6_pairs, Cond.code yX6_pairs cX6_pairs 6 none, Cond.fieldLink RX6 73 "GainsReckonerModel" "by" "[I", Cond.fieldLink RX6 76 "GainsReckonerModel" "from" "[I", Cond.fieldLink RX6 79 "GainsReckonerModel" "kind" "[I", Cond.fieldLink RX6 82 "GainsReckonerModel" "many" "[J"]
def wsX6_matches_r3 : List Cond := [Cond.fieldLink RX6 85 "GainsReckonerModel" "matchCost" "[J", Cond.fieldLink RX6 88 "GainsReckonerModel" "matchProceeds" "[J", Cond.methodLink RX6 130 yX6_part, Cond.static yX6_part, Cond.code yX6_part cX6_part 8 (some .long), Cond.methodLink RX6 142 yX6_pools, Cond.instanceMethod yX6_pools, Cond.selects RX6 yX6_pools yX6_pools, Cond.code yX6_pools cX6_pools 8 none, Cond.fieldLink RX6 67 "GainsReckonerModel" "units" "[J", Cond.fieldLink RX6 70 "GainsReckonerModel" "value" "[J"]
def wsX6_matches : List Cond := .code yX6_matches cX6_matches 2 (some .int) :: ((wsX6_matches_r1 ++ (wsX6_matches_r2 ++ wsX6_matches_r3)) ++ wsX60)
def wsX6_ahead : List Cond := .code yX6_ahead cX6_ahead 4 (some .int) :: ([.fieldLink RX6 127 "GainsReckonerModel" "made" "I", .fieldLink RX6 73 "GainsReckonerModel" "by" "[I"] ++ wsX60)
def wsX6_found_r1 : List Cond := [Cond.fieldLink RX6 91 "GainsReckonerModel" "thrown" "I", Cond.fieldLink RX6 127 "GainsReckonerModel" "made" "I", Cond.methodLink RX6 109 yX6_isShare, Cond.static yX6_isShare, Cond.initialized RX6, Cond.code yX6_isShare cX6_isShare 1 (some .boolean), Cond.methodLink RX6 94 yX6_isIn, Cond.static yX6_isIn, Cond.code yX6_isIn cX6_isIn 3 (some .boolean), Cond.methodLink RX6 149 yX6_reckons, Cond.instanceMethod yX6_reckons, Cond.selects RX6 yX6_reckons yX6_reckons, Cond.code yX6_reckons cX6_reckons 4 none, Cond.fieldLink RX6 124 "GainsReckonerModel" "days" "I", Cond.fieldLink RX6 45 "GainsReckonerModel" "date" "[I", Cond.fieldLink RX6 41 "GainsReckonerModel" "window" "I", Cond.methodLink RX6 134 yX6_laysDays, Cond.instanceMethod yX6_laysDays, Cond.selects RX6 yX6_laysDays yX6_laysDays, Cond.code yX6_laysDays cX6_laysDays 7 none, Cond.fieldLink RX6 98 "GainsReckonerModel" "trades" "I", Cond.fieldLink RX6 26 "GainsReckonerModel" "gone" "[Z", Cond.fieldLink RX6 7 "GainsReckonerModel" "share" "[I", Cond.fieldLink RX6 13 "GainsReckonerModel" "day" "[I"]
def wsX6_found_r2 : List Cond := [Cond.fieldLink RX6 48 "GainsReckonerModel" "bought" "[J", Cond.fieldLink RX6 52 "GainsReckonerModel" "cost" "[J", Cond.fieldLink RX6 55 "GainsReckonerModel" "sold" "[J", Cond.fieldLink RX6 58 "GainsReckonerModel" "proceeds" "[J", Cond.fieldLink RX6 16 "GainsReckonerModel" "count" "[I", Cond.fieldLink RX6 22 "GainsReckonerModel" "sale" "[Z", Cond.fieldLink RX6 19 "GainsReckonerModel" "money" "[I", Cond.fieldLink RX6 61 "GainsReckonerModel" "buyLeft" "[J", Cond.fieldLink RX6 64 "GainsReckonerModel" "saleLeft" "[J", Cond.methodLink RX6 101 yX6_later, Cond.instanceMethod yX6_later, Cond.selects RX6 yX6_later yX6_later, Cond.code yX6_later cX6_later 5 (some .int), Cond.fieldLink RX6 29 "GainsReckonerModel" "splits" "[I", Cond.fieldLink RX6 32 "GainsReckonerModel" "splitDay" "[I", Cond.fieldLink RX6 35 "GainsReckonerModel" "factor" "[I", Cond.methodLink RX6 138 yX6_pairs, Cond.instanceMethod yX6_pairs, Cond.selects RX6 yX6_pairs yX6_pairs, Cond.code yX6_pairs cX6_pairs 6 none, Cond.fieldLink RX6 73 "GainsReckonerModel" "by" "[I", Cond.fieldLink RX6 76 "GainsReckonerModel" "from" "[I", Cond.fieldLink RX6 79 "GainsReckonerModel" "kind" "[I", Cond.fieldLink RX6 82 "GainsReckonerModel" "many" "[J"]
def wsX6_found_r3 : List Cond := [Cond.fieldLink RX6 85 "GainsReckonerModel" "matchCost" "[J", Cond.fieldLink RX6 88 "GainsReckonerModel" "matchProceeds" "[J", Cond.methodLink RX6 130 yX6_part, Cond.static yX6_part, Cond.code yX6_part cX6_part 8 (some .long), Cond.methodLink RX6 142 yX6_pools, Cond.instanceMethod yX6_pools, Cond.selects RX6 yX6_pools yX6_pools, Cond.code yX6_pools cX6_pools 8 none, Cond.fieldLink RX6 67 "GainsReckonerModel" "units" "[J", Cond.fieldLink RX6 70 "GainsReckonerModel" "value" "[J", Cond.methodLink RX6 156 yX6_ahead, Cond.instanceMethod yX6_ahead, Cond.selects RX6 yX6_ahead yX6_ahead, Cond.code yX6_ahead cX6_ahead 4 (some .int)]
def wsX6_found : List Cond := .code yX6_found cX6_found 5 (some .int) :: ((wsX6_found_r1 ++ (wsX6_found_r2 ++ wsX6_found_r3)) ++ wsX60)
def wsX6_kindOf_r1 : List Cond := [Cond.fieldLink RX6 79 "GainsReckonerModel" "kind" "[I", Cond.methodLink RX6 159 yX6_found, Cond.instanceMethod yX6_found, Cond.selects RX6 yX6_found yX6_found, Cond.initialized RX6, Cond.code yX6_found cX6_found 5 (some .int), Cond.fieldLink RX6 91 "GainsReckonerModel" "thrown" "I", Cond.fieldLink RX6 127 "GainsReckonerModel" "made" "I", Cond.methodLink RX6 109 yX6_isShare, Cond.static yX6_isShare, Cond.code yX6_isShare cX6_isShare 1 (some .boolean), Cond.methodLink RX6 94 yX6_isIn, Cond.static yX6_isIn, Cond.code yX6_isIn cX6_isIn 3 (some .boolean), Cond.methodLink RX6 149 yX6_reckons, Cond.instanceMethod yX6_reckons, Cond.selects RX6 yX6_reckons yX6_reckons, Cond.code yX6_reckons cX6_reckons 4 none, Cond.fieldLink RX6 124 "GainsReckonerModel" "days" "I", Cond.fieldLink RX6 45 "GainsReckonerModel" "date" "[I", Cond.fieldLink RX6 41 "GainsReckonerModel" "window" "I", Cond.methodLink RX6 134 yX6_laysDays, Cond.instanceMethod yX6_laysDays, Cond.selects RX6 yX6_laysDays yX6_laysDays]
def wsX6_kindOf_r2 : List Cond := [Cond.code yX6_laysDays cX6_laysDays 7 none, Cond.fieldLink RX6 98 "GainsReckonerModel" "trades" "I", Cond.fieldLink RX6 26 "GainsReckonerModel" "gone" "[Z", Cond.fieldLink RX6 7 "GainsReckonerModel" "share" "[I", Cond.fieldLink RX6 13 "GainsReckonerModel" "day" "[I", Cond.fieldLink RX6 48 "GainsReckonerModel" "bought" "[J", Cond.fieldLink RX6 52 "GainsReckonerModel" "cost" "[J", Cond.fieldLink RX6 55 "GainsReckonerModel" "sold" "[J", Cond.fieldLink RX6 58 "GainsReckonerModel" "proceeds" "[J", Cond.fieldLink RX6 16 "GainsReckonerModel" "count" "[I", Cond.fieldLink RX6 22 "GainsReckonerModel" "sale" "[Z", Cond.fieldLink RX6 19 "GainsReckonerModel" "money" "[I", Cond.fieldLink RX6 61 "GainsReckonerModel" "buyLeft" "[J", Cond.fieldLink RX6 64 "GainsReckonerModel" "saleLeft" "[J", Cond.methodLink RX6 101 yX6_later, Cond.instanceMethod yX6_later, Cond.selects RX6 yX6_later yX6_later, Cond.code yX6_later cX6_later 5 (some .int), Cond.fieldLink RX6 29 "GainsReckonerModel" "splits" "[I", Cond.fieldLink RX6 32 "GainsReckonerModel" "splitDay" "[I", Cond.fieldLink RX6 35 "GainsReckonerModel" "factor" "[I", Cond.methodLink RX6 138 yX6_pairs, Cond.instanceMethod yX6_pairs, Cond.selects RX6 yX6_pairs yX6_pairs]
def wsX6_kindOf_r3 : List Cond := [Cond.code yX6_pairs cX6_pairs 6 none, Cond.fieldLink RX6 73 "GainsReckonerModel" "by" "[I", Cond.fieldLink RX6 76 "GainsReckonerModel" "from" "[I", Cond.fieldLink RX6 82 "GainsReckonerModel" "many" "[J", Cond.fieldLink RX6 85 "GainsReckonerModel" "matchCost" "[J", Cond.fieldLink RX6 88 "GainsReckonerModel" "matchProceeds" "[J", Cond.methodLink RX6 130 yX6_part, Cond.static yX6_part, Cond.code yX6_part cX6_part 8 (some .long), Cond.methodLink RX6 142 yX6_pools, Cond.instanceMethod yX6_pools, Cond.selects RX6 yX6_pools yX6_pools, Cond.code yX6_pools cX6_pools 8 none, Cond.fieldLink RX6 67 "GainsReckonerModel" "units" "[J", Cond.fieldLink RX6 70 "GainsReckonerModel" "value" "[J", Cond.methodLink RX6 156 yX6_ahead, Cond.instanceMethod yX6_ahead, Cond.selects RX6 yX6_ahead yX6_ahead, Cond.code yX6_ahead cX6_ahead 4 (some .int)]
def wsX6_kindOf : List Cond := .code yX6_kindOf cX6_kindOf 4 (some .int) :: ((wsX6_kindOf_r1 ++ (wsX6_kindOf_r2 ++ wsX6_kindOf_r3)) ++ wsX60)
def wsX6_saleDay_r1 : List Cond := [Cond.fieldLink RX6 45 "GainsReckonerModel" "date" "[I", Cond.fieldLink RX6 73 "GainsReckonerModel" "by" "[I", Cond.methodLink RX6 159 yX6_found, Cond.instanceMethod yX6_found, Cond.selects RX6 yX6_found yX6_found, Cond.initialized RX6, Cond.code yX6_found cX6_found 5 (some .int), Cond.fieldLink RX6 91 "GainsReckonerModel" "thrown" "I", Cond.fieldLink RX6 127 "GainsReckonerModel" "made" "I", Cond.methodLink RX6 109 yX6_isShare, Cond.static yX6_isShare, Cond.code yX6_isShare cX6_isShare 1 (some .boolean), Cond.methodLink RX6 94 yX6_isIn, Cond.static yX6_isIn, Cond.code yX6_isIn cX6_isIn 3 (some .boolean), Cond.methodLink RX6 149 yX6_reckons, Cond.instanceMethod yX6_reckons, Cond.selects RX6 yX6_reckons yX6_reckons, Cond.code yX6_reckons cX6_reckons 4 none, Cond.fieldLink RX6 124 "GainsReckonerModel" "days" "I", Cond.fieldLink RX6 41 "GainsReckonerModel" "window" "I", Cond.methodLink RX6 134 yX6_laysDays, Cond.instanceMethod yX6_laysDays, Cond.selects RX6 yX6_laysDays yX6_laysDays]
def wsX6_saleDay_r2 : List Cond := [Cond.code yX6_laysDays cX6_laysDays 7 none, Cond.fieldLink RX6 98 "GainsReckonerModel" "trades" "I", Cond.fieldLink RX6 26 "GainsReckonerModel" "gone" "[Z", Cond.fieldLink RX6 7 "GainsReckonerModel" "share" "[I", Cond.fieldLink RX6 13 "GainsReckonerModel" "day" "[I", Cond.fieldLink RX6 48 "GainsReckonerModel" "bought" "[J", Cond.fieldLink RX6 52 "GainsReckonerModel" "cost" "[J", Cond.fieldLink RX6 55 "GainsReckonerModel" "sold" "[J", Cond.fieldLink RX6 58 "GainsReckonerModel" "proceeds" "[J", Cond.fieldLink RX6 16 "GainsReckonerModel" "count" "[I", Cond.fieldLink RX6 22 "GainsReckonerModel" "sale" "[Z", Cond.fieldLink RX6 19 "GainsReckonerModel" "money" "[I", Cond.fieldLink RX6 61 "GainsReckonerModel" "buyLeft" "[J", Cond.fieldLink RX6 64 "GainsReckonerModel" "saleLeft" "[J", Cond.methodLink RX6 101 yX6_later, Cond.instanceMethod yX6_later, Cond.selects RX6 yX6_later yX6_later, Cond.code yX6_later cX6_later 5 (some .int), Cond.fieldLink RX6 29 "GainsReckonerModel" "splits" "[I", Cond.fieldLink RX6 32 "GainsReckonerModel" "splitDay" "[I", Cond.fieldLink RX6 35 "GainsReckonerModel" "factor" "[I", Cond.methodLink RX6 138 yX6_pairs, Cond.instanceMethod yX6_pairs, Cond.selects RX6 yX6_pairs yX6_pairs]
def wsX6_saleDay_r3 : List Cond := [Cond.code yX6_pairs cX6_pairs 6 none, Cond.fieldLink RX6 76 "GainsReckonerModel" "from" "[I", Cond.fieldLink RX6 79 "GainsReckonerModel" "kind" "[I", Cond.fieldLink RX6 82 "GainsReckonerModel" "many" "[J", Cond.fieldLink RX6 85 "GainsReckonerModel" "matchCost" "[J", Cond.fieldLink RX6 88 "GainsReckonerModel" "matchProceeds" "[J", Cond.methodLink RX6 130 yX6_part, Cond.static yX6_part, Cond.code yX6_part cX6_part 8 (some .long), Cond.methodLink RX6 142 yX6_pools, Cond.instanceMethod yX6_pools, Cond.selects RX6 yX6_pools yX6_pools, Cond.code yX6_pools cX6_pools 8 none, Cond.fieldLink RX6 67 "GainsReckonerModel" "units" "[J", Cond.fieldLink RX6 70 "GainsReckonerModel" "value" "[J", Cond.methodLink RX6 156 yX6_ahead, Cond.instanceMethod yX6_ahead, Cond.selects RX6 yX6_ahead yX6_ahead, Cond.code yX6_ahead cX6_ahead 4 (some .int)]
def wsX6_saleDay : List Cond := .code yX6_saleDay cX6_saleDay 4 (some .int) :: ((wsX6_saleDay_r1 ++ (wsX6_saleDay_r2 ++ wsX6_saleDay_r3)) ++ wsX60)
def wsX6_buyDay_r1 : List Cond := [Cond.fieldLink RX6 76 "GainsReckonerModel" "from" "[I", Cond.fieldLink RX6 45 "GainsReckonerModel" "date" "[I", Cond.methodLink RX6 159 yX6_found, Cond.instanceMethod yX6_found, Cond.selects RX6 yX6_found yX6_found, Cond.initialized RX6, Cond.code yX6_found cX6_found 5 (some .int), Cond.fieldLink RX6 91 "GainsReckonerModel" "thrown" "I", Cond.fieldLink RX6 127 "GainsReckonerModel" "made" "I", Cond.methodLink RX6 109 yX6_isShare, Cond.static yX6_isShare, Cond.code yX6_isShare cX6_isShare 1 (some .boolean), Cond.methodLink RX6 94 yX6_isIn, Cond.static yX6_isIn, Cond.code yX6_isIn cX6_isIn 3 (some .boolean), Cond.methodLink RX6 149 yX6_reckons, Cond.instanceMethod yX6_reckons, Cond.selects RX6 yX6_reckons yX6_reckons, Cond.code yX6_reckons cX6_reckons 4 none, Cond.fieldLink RX6 124 "GainsReckonerModel" "days" "I", Cond.fieldLink RX6 41 "GainsReckonerModel" "window" "I", Cond.methodLink RX6 134 yX6_laysDays, Cond.instanceMethod yX6_laysDays, Cond.selects RX6 yX6_laysDays yX6_laysDays]
def wsX6_buyDay_r2 : List Cond := [Cond.code yX6_laysDays cX6_laysDays 7 none, Cond.fieldLink RX6 98 "GainsReckonerModel" "trades" "I", Cond.fieldLink RX6 26 "GainsReckonerModel" "gone" "[Z", Cond.fieldLink RX6 7 "GainsReckonerModel" "share" "[I", Cond.fieldLink RX6 13 "GainsReckonerModel" "day" "[I", Cond.fieldLink RX6 48 "GainsReckonerModel" "bought" "[J", Cond.fieldLink RX6 52 "GainsReckonerModel" "cost" "[J", Cond.fieldLink RX6 55 "GainsReckonerModel" "sold" "[J", Cond.fieldLink RX6 58 "GainsReckonerModel" "proceeds" "[J", Cond.fieldLink RX6 16 "GainsReckonerModel" "count" "[I", Cond.fieldLink RX6 22 "GainsReckonerModel" "sale" "[Z", Cond.fieldLink RX6 19 "GainsReckonerModel" "money" "[I", Cond.fieldLink RX6 61 "GainsReckonerModel" "buyLeft" "[J", Cond.fieldLink RX6 64 "GainsReckonerModel" "saleLeft" "[J", Cond.methodLink RX6 101 yX6_later, Cond.instanceMethod yX6_later, Cond.selects RX6 yX6_later yX6_later, Cond.code yX6_later cX6_later 5 (some .int), Cond.fieldLink RX6 29 "GainsReckonerModel" "splits" "[I", Cond.fieldLink RX6 32 "GainsReckonerModel" "splitDay" "[I", Cond.fieldLink RX6 35 "GainsReckonerModel" "factor" "[I", Cond.methodLink RX6 138 yX6_pairs, Cond.instanceMethod yX6_pairs, Cond.selects RX6 yX6_pairs yX6_pairs]
def wsX6_buyDay_r3 : List Cond := [Cond.code yX6_pairs cX6_pairs 6 none, Cond.fieldLink RX6 73 "GainsReckonerModel" "by" "[I", Cond.fieldLink RX6 79 "GainsReckonerModel" "kind" "[I", Cond.fieldLink RX6 82 "GainsReckonerModel" "many" "[J", Cond.fieldLink RX6 85 "GainsReckonerModel" "matchCost" "[J", Cond.fieldLink RX6 88 "GainsReckonerModel" "matchProceeds" "[J", Cond.methodLink RX6 130 yX6_part, Cond.static yX6_part, Cond.code yX6_part cX6_part 8 (some .long), Cond.methodLink RX6 142 yX6_pools, Cond.instanceMethod yX6_pools, Cond.selects RX6 yX6_pools yX6_pools, Cond.code yX6_pools cX6_pools 8 none, Cond.fieldLink RX6 67 "GainsReckonerModel" "units" "[J", Cond.fieldLink RX6 70 "GainsReckonerModel" "value" "[J", Cond.methodLink RX6 156 yX6_ahead, Cond.instanceMethod yX6_ahead, Cond.selects RX6 yX6_ahead yX6_ahead, Cond.code yX6_ahead cX6_ahead 4 (some .int)]
def wsX6_buyDay : List Cond := .code yX6_buyDay cX6_buyDay 4 (some .int) :: ((wsX6_buyDay_r1 ++ (wsX6_buyDay_r2 ++ wsX6_buyDay_r3)) ++ wsX60)
def wsX6_unitsOf_r1 : List Cond := [Cond.fieldLink RX6 82 "GainsReckonerModel" "many" "[J", Cond.methodLink RX6 159 yX6_found, Cond.instanceMethod yX6_found, Cond.selects RX6 yX6_found yX6_found, Cond.initialized RX6, Cond.code yX6_found cX6_found 5 (some .int), Cond.fieldLink RX6 91 "GainsReckonerModel" "thrown" "I", Cond.fieldLink RX6 127 "GainsReckonerModel" "made" "I", Cond.methodLink RX6 109 yX6_isShare, Cond.static yX6_isShare, Cond.code yX6_isShare cX6_isShare 1 (some .boolean), Cond.methodLink RX6 94 yX6_isIn, Cond.static yX6_isIn, Cond.code yX6_isIn cX6_isIn 3 (some .boolean), Cond.methodLink RX6 149 yX6_reckons, Cond.instanceMethod yX6_reckons, Cond.selects RX6 yX6_reckons yX6_reckons, Cond.code yX6_reckons cX6_reckons 4 none, Cond.fieldLink RX6 124 "GainsReckonerModel" "days" "I", Cond.fieldLink RX6 45 "GainsReckonerModel" "date" "[I", Cond.fieldLink RX6 41 "GainsReckonerModel" "window" "I", Cond.methodLink RX6 134 yX6_laysDays, Cond.instanceMethod yX6_laysDays, Cond.selects RX6 yX6_laysDays yX6_laysDays]
def wsX6_unitsOf_r2 : List Cond := [Cond.code yX6_laysDays cX6_laysDays 7 none, Cond.fieldLink RX6 98 "GainsReckonerModel" "trades" "I", Cond.fieldLink RX6 26 "GainsReckonerModel" "gone" "[Z", Cond.fieldLink RX6 7 "GainsReckonerModel" "share" "[I", Cond.fieldLink RX6 13 "GainsReckonerModel" "day" "[I", Cond.fieldLink RX6 48 "GainsReckonerModel" "bought" "[J", Cond.fieldLink RX6 52 "GainsReckonerModel" "cost" "[J", Cond.fieldLink RX6 55 "GainsReckonerModel" "sold" "[J", Cond.fieldLink RX6 58 "GainsReckonerModel" "proceeds" "[J", Cond.fieldLink RX6 16 "GainsReckonerModel" "count" "[I", Cond.fieldLink RX6 22 "GainsReckonerModel" "sale" "[Z", Cond.fieldLink RX6 19 "GainsReckonerModel" "money" "[I", Cond.fieldLink RX6 61 "GainsReckonerModel" "buyLeft" "[J", Cond.fieldLink RX6 64 "GainsReckonerModel" "saleLeft" "[J", Cond.methodLink RX6 101 yX6_later, Cond.instanceMethod yX6_later, Cond.selects RX6 yX6_later yX6_later, Cond.code yX6_later cX6_later 5 (some .int), Cond.fieldLink RX6 29 "GainsReckonerModel" "splits" "[I", Cond.fieldLink RX6 32 "GainsReckonerModel" "splitDay" "[I", Cond.fieldLink RX6 35 "GainsReckonerModel" "factor" "[I", Cond.methodLink RX6 138 yX6_pairs, Cond.instanceMethod yX6_pairs, Cond.selects RX6 yX6_pairs yX6_pairs]
def wsX6_unitsOf_r3 : List Cond := [Cond.code yX6_pairs cX6_pairs 6 none, Cond.fieldLink RX6 73 "GainsReckonerModel" "by" "[I", Cond.fieldLink RX6 76 "GainsReckonerModel" "from" "[I", Cond.fieldLink RX6 79 "GainsReckonerModel" "kind" "[I", Cond.fieldLink RX6 85 "GainsReckonerModel" "matchCost" "[J", Cond.fieldLink RX6 88 "GainsReckonerModel" "matchProceeds" "[J", Cond.methodLink RX6 130 yX6_part, Cond.static yX6_part, Cond.code yX6_part cX6_part 8 (some .long), Cond.methodLink RX6 142 yX6_pools, Cond.instanceMethod yX6_pools, Cond.selects RX6 yX6_pools yX6_pools, Cond.code yX6_pools cX6_pools 8 none, Cond.fieldLink RX6 67 "GainsReckonerModel" "units" "[J", Cond.fieldLink RX6 70 "GainsReckonerModel" "value" "[J", Cond.methodLink RX6 156 yX6_ahead, Cond.instanceMethod yX6_ahead, Cond.selects RX6 yX6_ahead yX6_ahead, Cond.code yX6_ahead cX6_ahead 4 (some .int)]
def wsX6_unitsOf : List Cond := .code yX6_unitsOf cX6_unitsOf 4 (some .int) :: ((wsX6_unitsOf_r1 ++ (wsX6_unitsOf_r2 ++ wsX6_unitsOf_r3)) ++ wsX60)
def wsX6_costOf_r1 : List Cond := [Cond.fieldLink RX6 85 "GainsReckonerModel" "matchCost" "[J", Cond.methodLink RX6 159 yX6_found, Cond.instanceMethod yX6_found, Cond.selects RX6 yX6_found yX6_found, Cond.initialized RX6, Cond.code yX6_found cX6_found 5 (some .int), Cond.fieldLink RX6 91 "GainsReckonerModel" "thrown" "I", Cond.fieldLink RX6 127 "GainsReckonerModel" "made" "I", Cond.methodLink RX6 109 yX6_isShare, Cond.static yX6_isShare, Cond.code yX6_isShare cX6_isShare 1 (some .boolean), Cond.methodLink RX6 94 yX6_isIn, Cond.static yX6_isIn, Cond.code yX6_isIn cX6_isIn 3 (some .boolean), Cond.methodLink RX6 149 yX6_reckons, Cond.instanceMethod yX6_reckons, Cond.selects RX6 yX6_reckons yX6_reckons, Cond.code yX6_reckons cX6_reckons 4 none, Cond.fieldLink RX6 124 "GainsReckonerModel" "days" "I", Cond.fieldLink RX6 45 "GainsReckonerModel" "date" "[I", Cond.fieldLink RX6 41 "GainsReckonerModel" "window" "I", Cond.methodLink RX6 134 yX6_laysDays, Cond.instanceMethod yX6_laysDays, Cond.selects RX6 yX6_laysDays yX6_laysDays]
def wsX6_costOf_r2 : List Cond := [Cond.code yX6_laysDays cX6_laysDays 7 none, Cond.fieldLink RX6 98 "GainsReckonerModel" "trades" "I", Cond.fieldLink RX6 26 "GainsReckonerModel" "gone" "[Z", Cond.fieldLink RX6 7 "GainsReckonerModel" "share" "[I", Cond.fieldLink RX6 13 "GainsReckonerModel" "day" "[I", Cond.fieldLink RX6 48 "GainsReckonerModel" "bought" "[J", Cond.fieldLink RX6 52 "GainsReckonerModel" "cost" "[J", Cond.fieldLink RX6 55 "GainsReckonerModel" "sold" "[J", Cond.fieldLink RX6 58 "GainsReckonerModel" "proceeds" "[J", Cond.fieldLink RX6 16 "GainsReckonerModel" "count" "[I", Cond.fieldLink RX6 22 "GainsReckonerModel" "sale" "[Z", Cond.fieldLink RX6 19 "GainsReckonerModel" "money" "[I", Cond.fieldLink RX6 61 "GainsReckonerModel" "buyLeft" "[J", Cond.fieldLink RX6 64 "GainsReckonerModel" "saleLeft" "[J", Cond.methodLink RX6 101 yX6_later, Cond.instanceMethod yX6_later, Cond.selects RX6 yX6_later yX6_later, Cond.code yX6_later cX6_later 5 (some .int), Cond.fieldLink RX6 29 "GainsReckonerModel" "splits" "[I", Cond.fieldLink RX6 32 "GainsReckonerModel" "splitDay" "[I", Cond.fieldLink RX6 35 "GainsReckonerModel" "factor" "[I", Cond.methodLink RX6 138 yX6_pairs, Cond.instanceMethod yX6_pairs, Cond.selects RX6 yX6_pairs yX6_pairs]
def wsX6_costOf_r3 : List Cond := [Cond.code yX6_pairs cX6_pairs 6 none, Cond.fieldLink RX6 73 "GainsReckonerModel" "by" "[I", Cond.fieldLink RX6 76 "GainsReckonerModel" "from" "[I", Cond.fieldLink RX6 79 "GainsReckonerModel" "kind" "[I", Cond.fieldLink RX6 82 "GainsReckonerModel" "many" "[J", Cond.fieldLink RX6 88 "GainsReckonerModel" "matchProceeds" "[J", Cond.methodLink RX6 130 yX6_part, Cond.static yX6_part, Cond.code yX6_part cX6_part 8 (some .long), Cond.methodLink RX6 142 yX6_pools, Cond.instanceMethod yX6_pools, Cond.selects RX6 yX6_pools yX6_pools, Cond.code yX6_pools cX6_pools 8 none, Cond.fieldLink RX6 67 "GainsReckonerModel" "units" "[J", Cond.fieldLink RX6 70 "GainsReckonerModel" "value" "[J", Cond.methodLink RX6 156 yX6_ahead, Cond.instanceMethod yX6_ahead, Cond.selects RX6 yX6_ahead yX6_ahead, Cond.code yX6_ahead cX6_ahead 4 (some .int)]
def wsX6_costOf : List Cond := .code yX6_costOf cX6_costOf 4 (some .int) :: ((wsX6_costOf_r1 ++ (wsX6_costOf_r2 ++ wsX6_costOf_r3)) ++ wsX60)
def wsX6_proceedsOf_r1 : List Cond := [Cond.fieldLink RX6 88 "GainsReckonerModel" "matchProceeds" "[J", Cond.methodLink RX6 159 yX6_found, Cond.instanceMethod yX6_found, Cond.selects RX6 yX6_found yX6_found, Cond.initialized RX6, Cond.code yX6_found cX6_found 5 (some .int), Cond.fieldLink RX6 91 "GainsReckonerModel" "thrown" "I", Cond.fieldLink RX6 127 "GainsReckonerModel" "made" "I", Cond.methodLink RX6 109 yX6_isShare, Cond.static yX6_isShare, Cond.code yX6_isShare cX6_isShare 1 (some .boolean), Cond.methodLink RX6 94 yX6_isIn, Cond.static yX6_isIn, Cond.code yX6_isIn cX6_isIn 3 (some .boolean), Cond.methodLink RX6 149 yX6_reckons, Cond.instanceMethod yX6_reckons, Cond.selects RX6 yX6_reckons yX6_reckons, Cond.code yX6_reckons cX6_reckons 4 none, Cond.fieldLink RX6 124 "GainsReckonerModel" "days" "I", Cond.fieldLink RX6 45 "GainsReckonerModel" "date" "[I", Cond.fieldLink RX6 41 "GainsReckonerModel" "window" "I", Cond.methodLink RX6 134 yX6_laysDays, Cond.instanceMethod yX6_laysDays, Cond.selects RX6 yX6_laysDays yX6_laysDays]
def wsX6_proceedsOf_r2 : List Cond := [Cond.code yX6_laysDays cX6_laysDays 7 none, Cond.fieldLink RX6 98 "GainsReckonerModel" "trades" "I", Cond.fieldLink RX6 26 "GainsReckonerModel" "gone" "[Z", Cond.fieldLink RX6 7 "GainsReckonerModel" "share" "[I", Cond.fieldLink RX6 13 "GainsReckonerModel" "day" "[I", Cond.fieldLink RX6 48 "GainsReckonerModel" "bought" "[J", Cond.fieldLink RX6 52 "GainsReckonerModel" "cost" "[J", Cond.fieldLink RX6 55 "GainsReckonerModel" "sold" "[J", Cond.fieldLink RX6 58 "GainsReckonerModel" "proceeds" "[J", Cond.fieldLink RX6 16 "GainsReckonerModel" "count" "[I", Cond.fieldLink RX6 22 "GainsReckonerModel" "sale" "[Z", Cond.fieldLink RX6 19 "GainsReckonerModel" "money" "[I", Cond.fieldLink RX6 61 "GainsReckonerModel" "buyLeft" "[J", Cond.fieldLink RX6 64 "GainsReckonerModel" "saleLeft" "[J", Cond.methodLink RX6 101 yX6_later, Cond.instanceMethod yX6_later, Cond.selects RX6 yX6_later yX6_later, Cond.code yX6_later cX6_later 5 (some .int), Cond.fieldLink RX6 29 "GainsReckonerModel" "splits" "[I", Cond.fieldLink RX6 32 "GainsReckonerModel" "splitDay" "[I", Cond.fieldLink RX6 35 "GainsReckonerModel" "factor" "[I", Cond.methodLink RX6 138 yX6_pairs, Cond.instanceMethod yX6_pairs, Cond.selects RX6 yX6_pairs yX6_pairs]
def wsX6_proceedsOf_r3 : List Cond := [Cond.code yX6_pairs cX6_pairs 6 none, Cond.fieldLink RX6 73 "GainsReckonerModel" "by" "[I", Cond.fieldLink RX6 76 "GainsReckonerModel" "from" "[I", Cond.fieldLink RX6 79 "GainsReckonerModel" "kind" "[I", Cond.fieldLink RX6 82 "GainsReckonerModel" "many" "[J", Cond.fieldLink RX6 85 "GainsReckonerModel" "matchCost" "[J", Cond.methodLink RX6 130 yX6_part, Cond.static yX6_part, Cond.code yX6_part cX6_part 8 (some .long), Cond.methodLink RX6 142 yX6_pools, Cond.instanceMethod yX6_pools, Cond.selects RX6 yX6_pools yX6_pools, Cond.code yX6_pools cX6_pools 8 none, Cond.fieldLink RX6 67 "GainsReckonerModel" "units" "[J", Cond.fieldLink RX6 70 "GainsReckonerModel" "value" "[J", Cond.methodLink RX6 156 yX6_ahead, Cond.instanceMethod yX6_ahead, Cond.selects RX6 yX6_ahead yX6_ahead, Cond.code yX6_ahead cX6_ahead 4 (some .int)]
def wsX6_proceedsOf : List Cond := .code yX6_proceedsOf cX6_proceedsOf 4 (some .int) :: ((wsX6_proceedsOf_r1 ++ (wsX6_proceedsOf_r2 ++ wsX6_proceedsOf_r3)) ++ wsX60)
def wsX6_gained_r1 : List Cond := [Cond.fieldLink RX6 127 "GainsReckonerModel" "made" "I", Cond.fieldLink RX6 45 "GainsReckonerModel" "date" "[I", Cond.fieldLink RX6 73 "GainsReckonerModel" "by" "[I", Cond.fieldLink RX6 88 "GainsReckonerModel" "matchProceeds" "[J", Cond.fieldLink RX6 85 "GainsReckonerModel" "matchCost" "[J", Cond.methodLink RX6 149 yX6_reckons, Cond.instanceMethod yX6_reckons, Cond.selects RX6 yX6_reckons yX6_reckons, Cond.initialized RX6, Cond.code yX6_reckons cX6_reckons 4 none, Cond.fieldLink RX6 124 "GainsReckonerModel" "days" "I", Cond.fieldLink RX6 41 "GainsReckonerModel" "window" "I", Cond.methodLink RX6 134 yX6_laysDays, Cond.instanceMethod yX6_laysDays, Cond.selects RX6 yX6_laysDays yX6_laysDays, Cond.code yX6_laysDays cX6_laysDays 7 none, Cond.fieldLink RX6 98 "GainsReckonerModel" "trades" "I", Cond.fieldLink RX6 26 "GainsReckonerModel" "gone" "[Z", Cond.fieldLink RX6 7 "GainsReckonerModel" "share" "[I", Cond.fieldLink RX6 13 "GainsReckonerModel" "day" "[I", Cond.fieldLink RX6 48 "GainsReckonerModel" "bought" "[J", Cond.fieldLink RX6 52 "GainsReckonerModel" "cost" "[J", Cond.fieldLink RX6 55 "GainsReckonerModel" "sold" "[J", Cond.fieldLink RX6 58 "GainsReckonerModel" "proceeds" "[J"]
def wsX6_gained_r2 : List Cond := [Cond.fieldLink RX6 16 "GainsReckonerModel" "count" "[I", Cond.fieldLink RX6 22 "GainsReckonerModel" "sale" "[Z", Cond.fieldLink RX6 19 "GainsReckonerModel" "money" "[I", Cond.fieldLink RX6 61 "GainsReckonerModel" "buyLeft" "[J", Cond.fieldLink RX6 64 "GainsReckonerModel" "saleLeft" "[J", Cond.methodLink RX6 101 yX6_later, Cond.instanceMethod yX6_later, Cond.selects RX6 yX6_later yX6_later, Cond.code yX6_later cX6_later 5 (some .int), Cond.fieldLink RX6 29 "GainsReckonerModel" "splits" "[I", Cond.fieldLink RX6 32 "GainsReckonerModel" "splitDay" "[I", Cond.fieldLink RX6 35 "GainsReckonerModel" "factor" "[I", Cond.methodLink RX6 138 yX6_pairs, Cond.instanceMethod yX6_pairs, Cond.selects RX6 yX6_pairs yX6_pairs, Cond.code yX6_pairs cX6_pairs 6 none, Cond.fieldLink RX6 76 "GainsReckonerModel" "from" "[I", Cond.fieldLink RX6 79 "GainsReckonerModel" "kind" "[I", Cond.fieldLink RX6 82 "GainsReckonerModel" "many" "[J", Cond.methodLink RX6 130 yX6_part, Cond.static yX6_part, Cond.code yX6_part cX6_part 8 (some .long), Cond.methodLink RX6 142 yX6_pools, Cond.instanceMethod yX6_pools]
def wsX6_gained_r3 : List Cond := [Cond.selects RX6 yX6_pools yX6_pools, Cond.code yX6_pools cX6_pools 8 none, Cond.fieldLink RX6 67 "GainsReckonerModel" "units" "[J", Cond.fieldLink RX6 70 "GainsReckonerModel" "value" "[J"]
def wsX6_gained : List Cond := .code yX6_gained cX6_gained 6 (some .int) :: ((wsX6_gained_r1 ++ (wsX6_gained_r2 ++ wsX6_gained_r3)) ++ wsX60)
def wsX6_gain_r1 : List Cond := [Cond.fieldLink RX6 91 "GainsReckonerModel" "thrown" "I", Cond.methodLink RX6 109 yX6_isShare, Cond.static yX6_isShare, Cond.initialized RX6, Cond.code yX6_isShare cX6_isShare 1 (some .boolean), Cond.methodLink RX6 94 yX6_isIn, Cond.static yX6_isIn, Cond.code yX6_isIn cX6_isIn 3 (some .boolean), Cond.methodLink RX6 162 yX6_gained, Cond.instanceMethod yX6_gained, Cond.selects RX6 yX6_gained yX6_gained, Cond.code yX6_gained cX6_gained 6 (some .int), Cond.fieldLink RX6 127 "GainsReckonerModel" "made" "I", Cond.fieldLink RX6 45 "GainsReckonerModel" "date" "[I", Cond.fieldLink RX6 73 "GainsReckonerModel" "by" "[I", Cond.fieldLink RX6 88 "GainsReckonerModel" "matchProceeds" "[J", Cond.fieldLink RX6 85 "GainsReckonerModel" "matchCost" "[J", Cond.methodLink RX6 149 yX6_reckons, Cond.instanceMethod yX6_reckons, Cond.selects RX6 yX6_reckons yX6_reckons, Cond.code yX6_reckons cX6_reckons 4 none, Cond.fieldLink RX6 124 "GainsReckonerModel" "days" "I", Cond.fieldLink RX6 41 "GainsReckonerModel" "window" "I", Cond.methodLink RX6 134 yX6_laysDays]
def wsX6_gain_r2 : List Cond := [Cond.instanceMethod yX6_laysDays, Cond.selects RX6 yX6_laysDays yX6_laysDays, Cond.code yX6_laysDays cX6_laysDays 7 none, Cond.fieldLink RX6 98 "GainsReckonerModel" "trades" "I", Cond.fieldLink RX6 26 "GainsReckonerModel" "gone" "[Z", Cond.fieldLink RX6 7 "GainsReckonerModel" "share" "[I", Cond.fieldLink RX6 13 "GainsReckonerModel" "day" "[I", Cond.fieldLink RX6 48 "GainsReckonerModel" "bought" "[J", Cond.fieldLink RX6 52 "GainsReckonerModel" "cost" "[J", Cond.fieldLink RX6 55 "GainsReckonerModel" "sold" "[J", Cond.fieldLink RX6 58 "GainsReckonerModel" "proceeds" "[J", Cond.fieldLink RX6 16 "GainsReckonerModel" "count" "[I", Cond.fieldLink RX6 22 "GainsReckonerModel" "sale" "[Z", Cond.fieldLink RX6 19 "GainsReckonerModel" "money" "[I", Cond.fieldLink RX6 61 "GainsReckonerModel" "buyLeft" "[J", Cond.fieldLink RX6 64 "GainsReckonerModel" "saleLeft" "[J", Cond.methodLink RX6 101 yX6_later, Cond.instanceMethod yX6_later, Cond.selects RX6 yX6_later yX6_later, Cond.code yX6_later cX6_later 5 (some .int), Cond.fieldLink RX6 29 "GainsReckonerModel" "splits" "[I", Cond.fieldLink RX6 32 "GainsReckonerModel" "splitDay" "[I", Cond.fieldLink RX6 35 "GainsReckonerModel" "factor" "[I", Cond.methodLink RX6 138 yX6_pairs]
def wsX6_gain_r3 : List Cond := [Cond.instanceMethod yX6_pairs, Cond.selects RX6 yX6_pairs yX6_pairs, Cond.code yX6_pairs cX6_pairs 6 none, Cond.fieldLink RX6 76 "GainsReckonerModel" "from" "[I", Cond.fieldLink RX6 79 "GainsReckonerModel" "kind" "[I", Cond.fieldLink RX6 82 "GainsReckonerModel" "many" "[J", Cond.methodLink RX6 130 yX6_part, Cond.static yX6_part, Cond.code yX6_part cX6_part 8 (some .long), Cond.methodLink RX6 142 yX6_pools, Cond.instanceMethod yX6_pools, Cond.selects RX6 yX6_pools yX6_pools, Cond.code yX6_pools cX6_pools 8 none, Cond.fieldLink RX6 67 "GainsReckonerModel" "units" "[J", Cond.fieldLink RX6 70 "GainsReckonerModel" "value" "[J"]
def wsX6_gain : List Cond := .code yX6_gain cX6_gain 3 (some .int) :: ((wsX6_gain_r1 ++ (wsX6_gain_r2 ++ wsX6_gain_r3)) ++ wsX60)
def wsX6_netOf_r1 : List Cond := [Cond.methodLink RX6 162 yX6_gained, Cond.instanceMethod yX6_gained, Cond.selects RX6 yX6_gained yX6_gained, Cond.initialized RX6, Cond.code yX6_gained cX6_gained 6 (some .int), Cond.fieldLink RX6 127 "GainsReckonerModel" "made" "I", Cond.fieldLink RX6 45 "GainsReckonerModel" "date" "[I", Cond.fieldLink RX6 73 "GainsReckonerModel" "by" "[I", Cond.fieldLink RX6 88 "GainsReckonerModel" "matchProceeds" "[J", Cond.fieldLink RX6 85 "GainsReckonerModel" "matchCost" "[J", Cond.methodLink RX6 149 yX6_reckons, Cond.instanceMethod yX6_reckons, Cond.selects RX6 yX6_reckons yX6_reckons, Cond.code yX6_reckons cX6_reckons 4 none, Cond.fieldLink RX6 124 "GainsReckonerModel" "days" "I", Cond.fieldLink RX6 41 "GainsReckonerModel" "window" "I", Cond.methodLink RX6 134 yX6_laysDays, Cond.instanceMethod yX6_laysDays, Cond.selects RX6 yX6_laysDays yX6_laysDays, Cond.code yX6_laysDays cX6_laysDays 7 none, Cond.fieldLink RX6 98 "GainsReckonerModel" "trades" "I", Cond.fieldLink RX6 26 "GainsReckonerModel" "gone" "[Z", Cond.fieldLink RX6 7 "GainsReckonerModel" "share" "[I", Cond.fieldLink RX6 13 "GainsReckonerModel" "day" "[I"]
def wsX6_netOf_r2 : List Cond := [Cond.fieldLink RX6 48 "GainsReckonerModel" "bought" "[J", Cond.fieldLink RX6 52 "GainsReckonerModel" "cost" "[J", Cond.fieldLink RX6 55 "GainsReckonerModel" "sold" "[J", Cond.fieldLink RX6 58 "GainsReckonerModel" "proceeds" "[J", Cond.fieldLink RX6 16 "GainsReckonerModel" "count" "[I", Cond.fieldLink RX6 22 "GainsReckonerModel" "sale" "[Z", Cond.fieldLink RX6 19 "GainsReckonerModel" "money" "[I", Cond.fieldLink RX6 61 "GainsReckonerModel" "buyLeft" "[J", Cond.fieldLink RX6 64 "GainsReckonerModel" "saleLeft" "[J", Cond.methodLink RX6 101 yX6_later, Cond.instanceMethod yX6_later, Cond.selects RX6 yX6_later yX6_later, Cond.code yX6_later cX6_later 5 (some .int), Cond.fieldLink RX6 29 "GainsReckonerModel" "splits" "[I", Cond.fieldLink RX6 32 "GainsReckonerModel" "splitDay" "[I", Cond.fieldLink RX6 35 "GainsReckonerModel" "factor" "[I", Cond.methodLink RX6 138 yX6_pairs, Cond.instanceMethod yX6_pairs, Cond.selects RX6 yX6_pairs yX6_pairs, Cond.code yX6_pairs cX6_pairs 6 none, Cond.fieldLink RX6 76 "GainsReckonerModel" "from" "[I", Cond.fieldLink RX6 79 "GainsReckonerModel" "kind" "[I", Cond.fieldLink RX6 82 "GainsReckonerModel" "many" "[J", Cond.methodLink RX6 130 yX6_part]
def wsX6_netOf_r3 : List Cond := [Cond.static yX6_part, Cond.code yX6_part cX6_part 8 (some .long), Cond.methodLink RX6 142 yX6_pools, Cond.instanceMethod yX6_pools, Cond.selects RX6 yX6_pools yX6_pools, Cond.code yX6_pools cX6_pools 8 none, Cond.fieldLink RX6 67 "GainsReckonerModel" "units" "[J", Cond.fieldLink RX6 70 "GainsReckonerModel" "value" "[J"]
def wsX6_netOf : List Cond := .code yX6_netOf cX6_netOf 2 (some .int) :: ((wsX6_netOf_r1 ++ (wsX6_netOf_r2 ++ wsX6_netOf_r3)) ++ wsX60)
def wsX6_isYear : List Cond := .code yX6_isYear cX6_isYear 2 (some .boolean) :: ([.fieldLink RX6 91 "GainsReckonerModel" "thrown" "I", .methodLink RX6 94 yX6_isIn, .static yX6_isIn, .initialized RX6, .code yX6_isIn cX6_isIn 3 (some .boolean)] ++ wsX60)
def wsX6_net_r1 : List Cond := [Cond.methodLink RX6 165 yX6_isYear, Cond.instanceMethod yX6_isYear, Cond.selects RX6 yX6_isYear yX6_isYear, Cond.initialized RX6, Cond.code yX6_isYear cX6_isYear 2 (some .boolean), Cond.fieldLink RX6 91 "GainsReckonerModel" "thrown" "I", Cond.methodLink RX6 94 yX6_isIn, Cond.static yX6_isIn, Cond.code yX6_isIn cX6_isIn 3 (some .boolean), Cond.methodLink RX6 168 yX6_netOf, Cond.instanceMethod yX6_netOf, Cond.selects RX6 yX6_netOf yX6_netOf, Cond.code yX6_netOf cX6_netOf 2 (some .int), Cond.methodLink RX6 162 yX6_gained, Cond.instanceMethod yX6_gained, Cond.selects RX6 yX6_gained yX6_gained, Cond.code yX6_gained cX6_gained 6 (some .int), Cond.fieldLink RX6 127 "GainsReckonerModel" "made" "I", Cond.fieldLink RX6 45 "GainsReckonerModel" "date" "[I", Cond.fieldLink RX6 73 "GainsReckonerModel" "by" "[I", Cond.fieldLink RX6 88 "GainsReckonerModel" "matchProceeds" "[J", Cond.fieldLink RX6 85 "GainsReckonerModel" "matchCost" "[J", Cond.methodLink RX6 149 yX6_reckons, Cond.instanceMethod yX6_reckons]
def wsX6_net_r2 : List Cond := [Cond.selects RX6 yX6_reckons yX6_reckons, Cond.code yX6_reckons cX6_reckons 4 none, Cond.fieldLink RX6 124 "GainsReckonerModel" "days" "I", Cond.fieldLink RX6 41 "GainsReckonerModel" "window" "I", Cond.methodLink RX6 134 yX6_laysDays, Cond.instanceMethod yX6_laysDays, Cond.selects RX6 yX6_laysDays yX6_laysDays, Cond.code yX6_laysDays cX6_laysDays 7 none, Cond.fieldLink RX6 98 "GainsReckonerModel" "trades" "I", Cond.fieldLink RX6 26 "GainsReckonerModel" "gone" "[Z", Cond.fieldLink RX6 7 "GainsReckonerModel" "share" "[I", Cond.fieldLink RX6 13 "GainsReckonerModel" "day" "[I", Cond.fieldLink RX6 48 "GainsReckonerModel" "bought" "[J", Cond.fieldLink RX6 52 "GainsReckonerModel" "cost" "[J", Cond.fieldLink RX6 55 "GainsReckonerModel" "sold" "[J", Cond.fieldLink RX6 58 "GainsReckonerModel" "proceeds" "[J", Cond.fieldLink RX6 16 "GainsReckonerModel" "count" "[I", Cond.fieldLink RX6 22 "GainsReckonerModel" "sale" "[Z", Cond.fieldLink RX6 19 "GainsReckonerModel" "money" "[I", Cond.fieldLink RX6 61 "GainsReckonerModel" "buyLeft" "[J", Cond.fieldLink RX6 64 "GainsReckonerModel" "saleLeft" "[J", Cond.methodLink RX6 101 yX6_later, Cond.instanceMethod yX6_later, Cond.selects RX6 yX6_later yX6_later]
def wsX6_net_r3 : List Cond := [Cond.code yX6_later cX6_later 5 (some .int), Cond.fieldLink RX6 29 "GainsReckonerModel" "splits" "[I", Cond.fieldLink RX6 32 "GainsReckonerModel" "splitDay" "[I", Cond.fieldLink RX6 35 "GainsReckonerModel" "factor" "[I", Cond.methodLink RX6 138 yX6_pairs, Cond.instanceMethod yX6_pairs, Cond.selects RX6 yX6_pairs yX6_pairs, Cond.code yX6_pairs cX6_pairs 6 none, Cond.fieldLink RX6 76 "GainsReckonerModel" "from" "[I", Cond.fieldLink RX6 79 "GainsReckonerModel" "kind" "[I", Cond.fieldLink RX6 82 "GainsReckonerModel" "many" "[J", Cond.methodLink RX6 130 yX6_part, Cond.static yX6_part, Cond.code yX6_part cX6_part 8 (some .long), Cond.methodLink RX6 142 yX6_pools, Cond.instanceMethod yX6_pools, Cond.selects RX6 yX6_pools yX6_pools, Cond.code yX6_pools cX6_pools 8 none, Cond.fieldLink RX6 67 "GainsReckonerModel" "units" "[J", Cond.fieldLink RX6 70 "GainsReckonerModel" "value" "[J"]
def wsX6_net : List Cond := .code yX6_net cX6_net 2 (some .int) :: ((wsX6_net_r1 ++ (wsX6_net_r2 ++ wsX6_net_r3)) ++ wsX60)
def wsX6_above_r1 : List Cond := [Cond.fieldLink RX6 38 "GainsReckonerModel" "allowance" "[I", Cond.methodLink RX6 168 yX6_netOf, Cond.instanceMethod yX6_netOf, Cond.selects RX6 yX6_netOf yX6_netOf, Cond.initialized RX6, Cond.code yX6_netOf cX6_netOf 2 (some .int), Cond.methodLink RX6 162 yX6_gained, Cond.instanceMethod yX6_gained, Cond.selects RX6 yX6_gained yX6_gained, Cond.code yX6_gained cX6_gained 6 (some .int), Cond.fieldLink RX6 127 "GainsReckonerModel" "made" "I", Cond.fieldLink RX6 45 "GainsReckonerModel" "date" "[I", Cond.fieldLink RX6 73 "GainsReckonerModel" "by" "[I", Cond.fieldLink RX6 88 "GainsReckonerModel" "matchProceeds" "[J", Cond.fieldLink RX6 85 "GainsReckonerModel" "matchCost" "[J", Cond.methodLink RX6 149 yX6_reckons, Cond.instanceMethod yX6_reckons, Cond.selects RX6 yX6_reckons yX6_reckons, Cond.code yX6_reckons cX6_reckons 4 none, Cond.fieldLink RX6 124 "GainsReckonerModel" "days" "I", Cond.fieldLink RX6 41 "GainsReckonerModel" "window" "I", Cond.methodLink RX6 134 yX6_laysDays, Cond.instanceMethod yX6_laysDays, Cond.selects RX6 yX6_laysDays yX6_laysDays]
def wsX6_above_r2 : List Cond := [Cond.code yX6_laysDays cX6_laysDays 7 none, Cond.fieldLink RX6 98 "GainsReckonerModel" "trades" "I", Cond.fieldLink RX6 26 "GainsReckonerModel" "gone" "[Z", Cond.fieldLink RX6 7 "GainsReckonerModel" "share" "[I", Cond.fieldLink RX6 13 "GainsReckonerModel" "day" "[I", Cond.fieldLink RX6 48 "GainsReckonerModel" "bought" "[J", Cond.fieldLink RX6 52 "GainsReckonerModel" "cost" "[J", Cond.fieldLink RX6 55 "GainsReckonerModel" "sold" "[J", Cond.fieldLink RX6 58 "GainsReckonerModel" "proceeds" "[J", Cond.fieldLink RX6 16 "GainsReckonerModel" "count" "[I", Cond.fieldLink RX6 22 "GainsReckonerModel" "sale" "[Z", Cond.fieldLink RX6 19 "GainsReckonerModel" "money" "[I", Cond.fieldLink RX6 61 "GainsReckonerModel" "buyLeft" "[J", Cond.fieldLink RX6 64 "GainsReckonerModel" "saleLeft" "[J", Cond.methodLink RX6 101 yX6_later, Cond.instanceMethod yX6_later, Cond.selects RX6 yX6_later yX6_later, Cond.code yX6_later cX6_later 5 (some .int), Cond.fieldLink RX6 29 "GainsReckonerModel" "splits" "[I", Cond.fieldLink RX6 32 "GainsReckonerModel" "splitDay" "[I", Cond.fieldLink RX6 35 "GainsReckonerModel" "factor" "[I", Cond.methodLink RX6 138 yX6_pairs, Cond.instanceMethod yX6_pairs, Cond.selects RX6 yX6_pairs yX6_pairs]
def wsX6_above_r3 : List Cond := [Cond.code yX6_pairs cX6_pairs 6 none, Cond.fieldLink RX6 76 "GainsReckonerModel" "from" "[I", Cond.fieldLink RX6 79 "GainsReckonerModel" "kind" "[I", Cond.fieldLink RX6 82 "GainsReckonerModel" "many" "[J", Cond.methodLink RX6 130 yX6_part, Cond.static yX6_part, Cond.code yX6_part cX6_part 8 (some .long), Cond.methodLink RX6 142 yX6_pools, Cond.instanceMethod yX6_pools, Cond.selects RX6 yX6_pools yX6_pools, Cond.code yX6_pools cX6_pools 8 none, Cond.fieldLink RX6 67 "GainsReckonerModel" "units" "[J", Cond.fieldLink RX6 70 "GainsReckonerModel" "value" "[J"]
def wsX6_above : List Cond := .code yX6_above cX6_above 3 (some .int) :: ((wsX6_above_r1 ++ (wsX6_above_r2 ++ wsX6_above_r3)) ++ wsX60)
def wsX6_into_r1 : List Cond := [Cond.methodLink RX6 168 yX6_netOf, Cond.instanceMethod yX6_netOf, Cond.selects RX6 yX6_netOf yX6_netOf, Cond.initialized RX6, Cond.code yX6_netOf cX6_netOf 2 (some .int), Cond.methodLink RX6 162 yX6_gained, Cond.instanceMethod yX6_gained, Cond.selects RX6 yX6_gained yX6_gained, Cond.code yX6_gained cX6_gained 6 (some .int), Cond.fieldLink RX6 127 "GainsReckonerModel" "made" "I", Cond.fieldLink RX6 45 "GainsReckonerModel" "date" "[I", Cond.fieldLink RX6 73 "GainsReckonerModel" "by" "[I", Cond.fieldLink RX6 88 "GainsReckonerModel" "matchProceeds" "[J", Cond.fieldLink RX6 85 "GainsReckonerModel" "matchCost" "[J", Cond.methodLink RX6 149 yX6_reckons, Cond.instanceMethod yX6_reckons, Cond.selects RX6 yX6_reckons yX6_reckons, Cond.code yX6_reckons cX6_reckons 4 none, Cond.fieldLink RX6 124 "GainsReckonerModel" "days" "I", Cond.fieldLink RX6 41 "GainsReckonerModel" "window" "I", Cond.methodLink RX6 134 yX6_laysDays, Cond.instanceMethod yX6_laysDays, Cond.selects RX6 yX6_laysDays yX6_laysDays, Cond.code yX6_laysDays cX6_laysDays 7 none]
def wsX6_into_r2 : List Cond := [Cond.fieldLink RX6 98 "GainsReckonerModel" "trades" "I", Cond.fieldLink RX6 26 "GainsReckonerModel" "gone" "[Z", Cond.fieldLink RX6 7 "GainsReckonerModel" "share" "[I", Cond.fieldLink RX6 13 "GainsReckonerModel" "day" "[I", Cond.fieldLink RX6 48 "GainsReckonerModel" "bought" "[J", Cond.fieldLink RX6 52 "GainsReckonerModel" "cost" "[J", Cond.fieldLink RX6 55 "GainsReckonerModel" "sold" "[J", Cond.fieldLink RX6 58 "GainsReckonerModel" "proceeds" "[J", Cond.fieldLink RX6 16 "GainsReckonerModel" "count" "[I", Cond.fieldLink RX6 22 "GainsReckonerModel" "sale" "[Z", Cond.fieldLink RX6 19 "GainsReckonerModel" "money" "[I", Cond.fieldLink RX6 61 "GainsReckonerModel" "buyLeft" "[J", Cond.fieldLink RX6 64 "GainsReckonerModel" "saleLeft" "[J", Cond.methodLink RX6 101 yX6_later, Cond.instanceMethod yX6_later, Cond.selects RX6 yX6_later yX6_later, Cond.code yX6_later cX6_later 5 (some .int), Cond.fieldLink RX6 29 "GainsReckonerModel" "splits" "[I", Cond.fieldLink RX6 32 "GainsReckonerModel" "splitDay" "[I", Cond.fieldLink RX6 35 "GainsReckonerModel" "factor" "[I", Cond.methodLink RX6 138 yX6_pairs, Cond.instanceMethod yX6_pairs, Cond.selects RX6 yX6_pairs yX6_pairs, Cond.code yX6_pairs cX6_pairs 6 none]
def wsX6_into_r3 : List Cond := [Cond.fieldLink RX6 76 "GainsReckonerModel" "from" "[I", Cond.fieldLink RX6 79 "GainsReckonerModel" "kind" "[I", Cond.fieldLink RX6 82 "GainsReckonerModel" "many" "[J", Cond.methodLink RX6 130 yX6_part, Cond.static yX6_part, Cond.code yX6_part cX6_part 8 (some .long), Cond.methodLink RX6 142 yX6_pools, Cond.instanceMethod yX6_pools, Cond.selects RX6 yX6_pools yX6_pools, Cond.code yX6_pools cX6_pools 8 none, Cond.fieldLink RX6 67 "GainsReckonerModel" "units" "[J", Cond.fieldLink RX6 70 "GainsReckonerModel" "value" "[J", Cond.methodLink RX6 171 yX6_above, Cond.instanceMethod yX6_above, Cond.selects RX6 yX6_above yX6_above, Cond.code yX6_above cX6_above 3 (some .int), Cond.fieldLink RX6 38 "GainsReckonerModel" "allowance" "[I"]
def wsX6_into : List Cond := .code yX6_into cX6_into 6 (some .int) :: ((wsX6_into_r1 ++ (wsX6_into_r2 ++ wsX6_into_r3)) ++ wsX60)
def wsX6_carried_r1 : List Cond := [Cond.methodLink RX6 165 yX6_isYear, Cond.instanceMethod yX6_isYear, Cond.selects RX6 yX6_isYear yX6_isYear, Cond.initialized RX6, Cond.code yX6_isYear cX6_isYear 2 (some .boolean), Cond.fieldLink RX6 91 "GainsReckonerModel" "thrown" "I", Cond.methodLink RX6 94 yX6_isIn, Cond.static yX6_isIn, Cond.code yX6_isIn cX6_isIn 3 (some .boolean), Cond.methodLink RX6 174 yX6_into, Cond.instanceMethod yX6_into, Cond.selects RX6 yX6_into yX6_into, Cond.code yX6_into cX6_into 6 (some .int), Cond.methodLink RX6 168 yX6_netOf, Cond.instanceMethod yX6_netOf, Cond.selects RX6 yX6_netOf yX6_netOf, Cond.code yX6_netOf cX6_netOf 2 (some .int), Cond.methodLink RX6 162 yX6_gained, Cond.instanceMethod yX6_gained, Cond.selects RX6 yX6_gained yX6_gained, Cond.code yX6_gained cX6_gained 6 (some .int), Cond.fieldLink RX6 127 "GainsReckonerModel" "made" "I", Cond.fieldLink RX6 45 "GainsReckonerModel" "date" "[I", Cond.fieldLink RX6 73 "GainsReckonerModel" "by" "[I"]
def wsX6_carried_r2 : List Cond := [Cond.fieldLink RX6 88 "GainsReckonerModel" "matchProceeds" "[J", Cond.fieldLink RX6 85 "GainsReckonerModel" "matchCost" "[J", Cond.methodLink RX6 149 yX6_reckons, Cond.instanceMethod yX6_reckons, Cond.selects RX6 yX6_reckons yX6_reckons, Cond.code yX6_reckons cX6_reckons 4 none, Cond.fieldLink RX6 124 "GainsReckonerModel" "days" "I", Cond.fieldLink RX6 41 "GainsReckonerModel" "window" "I", Cond.methodLink RX6 134 yX6_laysDays, Cond.instanceMethod yX6_laysDays, Cond.selects RX6 yX6_laysDays yX6_laysDays, Cond.code yX6_laysDays cX6_laysDays 7 none, Cond.fieldLink RX6 98 "GainsReckonerModel" "trades" "I", Cond.fieldLink RX6 26 "GainsReckonerModel" "gone" "[Z", Cond.fieldLink RX6 7 "GainsReckonerModel" "share" "[I", Cond.fieldLink RX6 13 "GainsReckonerModel" "day" "[I", Cond.fieldLink RX6 48 "GainsReckonerModel" "bought" "[J", Cond.fieldLink RX6 52 "GainsReckonerModel" "cost" "[J", Cond.fieldLink RX6 55 "GainsReckonerModel" "sold" "[J", Cond.fieldLink RX6 58 "GainsReckonerModel" "proceeds" "[J", Cond.fieldLink RX6 16 "GainsReckonerModel" "count" "[I", Cond.fieldLink RX6 22 "GainsReckonerModel" "sale" "[Z", Cond.fieldLink RX6 19 "GainsReckonerModel" "money" "[I", Cond.fieldLink RX6 61 "GainsReckonerModel" "buyLeft" "[J"]
def wsX6_carried_r3 : List Cond := [Cond.fieldLink RX6 64 "GainsReckonerModel" "saleLeft" "[J", Cond.methodLink RX6 101 yX6_later, Cond.instanceMethod yX6_later, Cond.selects RX6 yX6_later yX6_later, Cond.code yX6_later cX6_later 5 (some .int), Cond.fieldLink RX6 29 "GainsReckonerModel" "splits" "[I", Cond.fieldLink RX6 32 "GainsReckonerModel" "splitDay" "[I", Cond.fieldLink RX6 35 "GainsReckonerModel" "factor" "[I", Cond.methodLink RX6 138 yX6_pairs, Cond.instanceMethod yX6_pairs, Cond.selects RX6 yX6_pairs yX6_pairs, Cond.code yX6_pairs cX6_pairs 6 none, Cond.fieldLink RX6 76 "GainsReckonerModel" "from" "[I", Cond.fieldLink RX6 79 "GainsReckonerModel" "kind" "[I", Cond.fieldLink RX6 82 "GainsReckonerModel" "many" "[J", Cond.methodLink RX6 130 yX6_part, Cond.static yX6_part, Cond.code yX6_part cX6_part 8 (some .long), Cond.methodLink RX6 142 yX6_pools, Cond.instanceMethod yX6_pools, Cond.selects RX6 yX6_pools yX6_pools, Cond.code yX6_pools cX6_pools 8 none, Cond.fieldLink RX6 67 "GainsReckonerModel" "units" "[J", Cond.fieldLink RX6 70 "GainsReckonerModel" "value" "[J"]
def wsX6_carried_r4 : List Cond := [Cond.methodLink RX6 171 yX6_above, Cond.instanceMethod yX6_above, Cond.selects RX6 yX6_above yX6_above, Cond.code yX6_above cX6_above 3 (some .int), Cond.fieldLink RX6 38 "GainsReckonerModel" "allowance" "[I"]
def wsX6_carried : List Cond := .code yX6_carried cX6_carried 2 (some .int) :: ((wsX6_carried_r1 ++ (wsX6_carried_r2 ++ (wsX6_carried_r3 ++ wsX6_carried_r4))) ++ wsX60)
def wsX6_taxable_r1 : List Cond := [Cond.methodLink RX6 165 yX6_isYear, Cond.instanceMethod yX6_isYear, Cond.selects RX6 yX6_isYear yX6_isYear, Cond.initialized RX6, Cond.code yX6_isYear cX6_isYear 2 (some .boolean), Cond.fieldLink RX6 91 "GainsReckonerModel" "thrown" "I", Cond.methodLink RX6 94 yX6_isIn, Cond.static yX6_isIn, Cond.code yX6_isIn cX6_isIn 3 (some .boolean), Cond.methodLink RX6 171 yX6_above, Cond.instanceMethod yX6_above, Cond.selects RX6 yX6_above yX6_above, Cond.code yX6_above cX6_above 3 (some .int), Cond.fieldLink RX6 38 "GainsReckonerModel" "allowance" "[I", Cond.methodLink RX6 168 yX6_netOf, Cond.instanceMethod yX6_netOf, Cond.selects RX6 yX6_netOf yX6_netOf, Cond.code yX6_netOf cX6_netOf 2 (some .int), Cond.methodLink RX6 162 yX6_gained, Cond.instanceMethod yX6_gained, Cond.selects RX6 yX6_gained yX6_gained, Cond.code yX6_gained cX6_gained 6 (some .int), Cond.fieldLink RX6 127 "GainsReckonerModel" "made" "I", Cond.fieldLink RX6 45 "GainsReckonerModel" "date" "[I"]
def wsX6_taxable_r2 : List Cond := [Cond.fieldLink RX6 73 "GainsReckonerModel" "by" "[I", Cond.fieldLink RX6 88 "GainsReckonerModel" "matchProceeds" "[J", Cond.fieldLink RX6 85 "GainsReckonerModel" "matchCost" "[J", Cond.methodLink RX6 149 yX6_reckons, Cond.instanceMethod yX6_reckons, Cond.selects RX6 yX6_reckons yX6_reckons, Cond.code yX6_reckons cX6_reckons 4 none, Cond.fieldLink RX6 124 "GainsReckonerModel" "days" "I", Cond.fieldLink RX6 41 "GainsReckonerModel" "window" "I", Cond.methodLink RX6 134 yX6_laysDays, Cond.instanceMethod yX6_laysDays, Cond.selects RX6 yX6_laysDays yX6_laysDays, Cond.code yX6_laysDays cX6_laysDays 7 none, Cond.fieldLink RX6 98 "GainsReckonerModel" "trades" "I", Cond.fieldLink RX6 26 "GainsReckonerModel" "gone" "[Z", Cond.fieldLink RX6 7 "GainsReckonerModel" "share" "[I", Cond.fieldLink RX6 13 "GainsReckonerModel" "day" "[I", Cond.fieldLink RX6 48 "GainsReckonerModel" "bought" "[J", Cond.fieldLink RX6 52 "GainsReckonerModel" "cost" "[J", Cond.fieldLink RX6 55 "GainsReckonerModel" "sold" "[J", Cond.fieldLink RX6 58 "GainsReckonerModel" "proceeds" "[J", Cond.fieldLink RX6 16 "GainsReckonerModel" "count" "[I", Cond.fieldLink RX6 22 "GainsReckonerModel" "sale" "[Z", Cond.fieldLink RX6 19 "GainsReckonerModel" "money" "[I"]
def wsX6_taxable_r3 : List Cond := [Cond.fieldLink RX6 61 "GainsReckonerModel" "buyLeft" "[J", Cond.fieldLink RX6 64 "GainsReckonerModel" "saleLeft" "[J", Cond.methodLink RX6 101 yX6_later, Cond.instanceMethod yX6_later, Cond.selects RX6 yX6_later yX6_later, Cond.code yX6_later cX6_later 5 (some .int), Cond.fieldLink RX6 29 "GainsReckonerModel" "splits" "[I", Cond.fieldLink RX6 32 "GainsReckonerModel" "splitDay" "[I", Cond.fieldLink RX6 35 "GainsReckonerModel" "factor" "[I", Cond.methodLink RX6 138 yX6_pairs, Cond.instanceMethod yX6_pairs, Cond.selects RX6 yX6_pairs yX6_pairs, Cond.code yX6_pairs cX6_pairs 6 none, Cond.fieldLink RX6 76 "GainsReckonerModel" "from" "[I", Cond.fieldLink RX6 79 "GainsReckonerModel" "kind" "[I", Cond.fieldLink RX6 82 "GainsReckonerModel" "many" "[J", Cond.methodLink RX6 130 yX6_part, Cond.static yX6_part, Cond.code yX6_part cX6_part 8 (some .long), Cond.methodLink RX6 142 yX6_pools, Cond.instanceMethod yX6_pools, Cond.selects RX6 yX6_pools yX6_pools, Cond.code yX6_pools cX6_pools 8 none, Cond.fieldLink RX6 67 "GainsReckonerModel" "units" "[J"]
def wsX6_taxable_r4 : List Cond := [Cond.fieldLink RX6 70 "GainsReckonerModel" "value" "[J", Cond.methodLink RX6 174 yX6_into, Cond.instanceMethod yX6_into, Cond.selects RX6 yX6_into yX6_into, Cond.code yX6_into cX6_into 6 (some .int)]
def wsX6_taxable : List Cond := .code yX6_taxable cX6_taxable 3 (some .int) :: ((wsX6_taxable_r1 ++ (wsX6_taxable_r2 ++ (wsX6_taxable_r3 ++ wsX6_taxable_r4))) ++ wsX60)
def wsJ9_max_7cf53 : List Cond := .code yJ9_max_7cf53 cJ9_max_7cf53 2 (some .int) :: ([])
def wsJ9_min_7cf53 : List Cond := .code yJ9_min_7cf53 cJ9_min_7cf53 2 (some .int) :: ([])
def wsL_buy_r1 : List Cond := [Cond.classLink RL 13 "java/lang/IndexOutOfBoundsException", Cond.classLink RL 15 "java/lang/IllegalArgumentException", Cond.classLink RL 17 "java/lang/IllegalStateException", Cond.methodLink RL 7 yX5_buy, Cond.instanceMethod yX5_buy, Cond.selects RX5 yX5_buy yX5_buy, Cond.initialized RX5, Cond.code yX5_buy cX5_buy 7 (some .int), Cond.fieldLink RX5 10 "GainsReckoner" "journal" "LGainsReckoner$Journal;", Cond.fieldLink RX5 29 "GainsReckoner" "window" "I", Cond.methodLink RX5 33 yX5_ledgerAt, Cond.instanceMethod yX5_ledgerAt, Cond.selects RX5 yX5_ledgerAt yX5_ledgerAt, Cond.code yX5_ledgerAt cX5_ledgerAt 4 (some (.object "GainsReckoner$Ledger")), Cond.classLink RX5 88 "java/lang/IndexOutOfBoundsException", Cond.initialized "java/lang/IndexOutOfBoundsException", Cond.methodLink RX5 139 yX5_ledgerOf, Cond.instanceMethod yX5_ledgerOf, Cond.selects RX5 yX5_ledgerOf yX5_ledgerOf, Cond.code yX5_ledgerOf cX5_ledgerOf 2 (some (.object "GainsReckoner$Ledger")), Cond.fieldLink RX5 18 "GainsReckoner" "ledgers" "[LGainsReckoner$Ledger;", Cond.methodLink RX5 37 yX5_checkTrade, Cond.static yX5_checkTrade, Cond.code yX5_checkTrade cX5_checkTrade 2 none]
def wsL_buy_r2 : List Cond := [Cond.classLink RX5 56 "java/lang/IllegalArgumentException", Cond.initialized "java/lang/IllegalArgumentException", Cond.methodLink RX5 114 yX5_checkMoney, Cond.static yX5_checkMoney, Cond.code yX5_checkMoney cX5_checkMoney 1 none, Cond.constant RX5 213 (1000000), Cond.methodLink RX5 41 yX5_checkRoomForTrade, Cond.instanceMethod yX5_checkRoomForTrade, Cond.selects RX5 yX5_checkRoomForTrade yX5_checkRoomForTrade, Cond.code yX5_checkRoomForTrade cX5_checkRoomForTrade 1 none, Cond.classLink RX5 77 "java/lang/IllegalStateException", Cond.initialized "java/lang/IllegalStateException", Cond.methodLink RX5 206 yX0_isFull, Cond.instanceMethod yX0_isFull, Cond.selects RX0 yX0_isFull yX0_isFull, Cond.initialized RX0, Cond.code yX0_isFull cX0_isFull 1 (some .boolean), Cond.fieldLink RX0 31 "GainsReckoner$Journal" "size" "I", Cond.methodLink RX5 44 yX0_enter, Cond.instanceMethod yX0_enter, Cond.selects RX0 yX0_enter yX0_enter, Cond.code yX0_enter cX0_enter 7 (some .int), Cond.fieldLink RX0 9 "GainsReckoner$Journal" "sale" "[Z", Cond.fieldLink RX0 18 "GainsReckoner$Journal" "share" "[I"]
def wsL_buy_r3 : List Cond := [Cond.fieldLink RX0 22 "GainsReckoner$Journal" "day" "[I", Cond.fieldLink RX0 25 "GainsReckoner$Journal" "count" "[I", Cond.fieldLink RX0 28 "GainsReckoner$Journal" "money" "[I", Cond.methodLink RX0 35 yX0_isFull, Cond.methodLink RX5 48 yX1_reckon, Cond.instanceMethod yX1_reckon, Cond.selects RX1 yX1_reckon yX1_reckon, Cond.initialized RX1, Cond.code yX1_reckon cX1_reckon 4 none, Cond.fieldLink RX1 21 "GainsReckoner$Ledger" "sheet" "LGainsReckoner$Sheet;", Cond.fieldLink RX1 32 "GainsReckoner$Ledger" "share" "I", Cond.fieldLink RX1 12 "GainsReckoner$Ledger" "splits" "LGainsReckoner$Splits;", Cond.fieldLink RX1 28 "GainsReckoner$Ledger" "matched" "LGainsReckoner$Matches;", Cond.methodLink RX1 36 yX3_fill, Cond.instanceMethod yX3_fill, Cond.selects RX3 yX3_fill yX3_fill, Cond.initialized RX3, Cond.code yX3_fill cX3_fill 6 none, Cond.methodLink RX3 43 yX3_openRows, Cond.instanceMethod yX3_openRows, Cond.selects RX3 yX3_openRows yX3_openRows, Cond.code yX3_openRows cX3_openRows 4 none, Cond.fieldLink RX3 39 "GainsReckoner$Sheet" "size" "I", Cond.fieldLink RX3 15 "GainsReckoner$Sheet" "bought" "[I"]
def wsL_buy_r4 : List Cond := [Cond.fieldLink RX3 21 "GainsReckoner$Sheet" "cost" "[I", Cond.fieldLink RX3 24 "GainsReckoner$Sheet" "sold" "[I", Cond.fieldLink RX3 30 "GainsReckoner$Sheet" "proceeds" "[I", Cond.methodLink RX3 50 yX0_counts, Cond.instanceMethod yX0_counts, Cond.selects RX0 yX0_counts yX0_counts, Cond.code yX0_counts cX0_counts 3 (some .boolean), Cond.fieldLink RX0 15 "GainsReckoner$Journal" "cancelled" "[Z", Cond.methodLink RX3 71 yX3_openRow, Cond.instanceMethod yX3_openRow, Cond.selects RX3 yX3_openRow yX3_openRow, Cond.code yX3_openRow cX3_openRow 4 none, Cond.fieldLink RX3 9 "GainsReckoner$Sheet" "day" "[I", Cond.methodLink RX3 75 yX3_lastRowUpTo, Cond.instanceMethod yX3_lastRowUpTo, Cond.selects RX3 yX3_lastRowUpTo yX3_lastRowUpTo, Cond.code yX3_lastRowUpTo cX3_lastRowUpTo 4 (some .int), Cond.methodLink RX3 58 yX4_factorBetween, Cond.instanceMethod yX4_factorBetween, Cond.selects RX4 yX4_factorBetween yX4_factorBetween, Cond.initialized RX4, Cond.code yX4_factorBetween cX4_factorBetween 5 (some .int), Cond.fieldLink RX4 18 "GainsReckoner$Splits" "size" "I", Cond.fieldLink RX4 9 "GainsReckoner$Splits" "day" "[I"]
def wsL_buy_r5 : List Cond := [Cond.fieldLink RX4 15 "GainsReckoner$Splits" "factor" "[I", Cond.methodLink RX3 64 yX3_addTrade, Cond.instanceMethod yX3_addTrade, Cond.selects RX3 yX3_addTrade yX3_addTrade, Cond.code yX3_addTrade cX3_addTrade 5 none, Cond.methodLink RX3 68 yX3_setSameDaysAside, Cond.instanceMethod yX3_setSameDaysAside, Cond.selects RX3 yX3_setSameDaysAside yX3_setSameDaysAside, Cond.code yX3_setSameDaysAside cX3_setSameDaysAside 3 none, Cond.methodLink RX3 86 Lib.Math.min.name, Cond.static Lib.Math.min.name, Cond.initialized "java/lang/Math", Cond.code Lib.Math.min.name Lib.Math.min.code 2 (some .int), Cond.fieldLink RX3 18 "GainsReckoner$Sheet" "boughtGone" "[I", Cond.fieldLink RX3 27 "GainsReckoner$Sheet" "soldGone" "[I", Cond.methodLink RX1 44 yX1_matchSameDay, Cond.instanceMethod yX1_matchSameDay, Cond.selects RX1 yX1_matchSameDay yX1_matchSameDay, Cond.code yX1_matchSameDay cX1_matchSameDay 5 none, Cond.methodLink RX1 83 Lib.Math.min.name, Cond.static yX5_part, Cond.code yX5_part cX5_part 4 (some .int), Cond.methodLink RX1 99 yX2_add, Cond.instanceMethod yX2_add]
def wsL_buy_r6 : List Cond := [Cond.selects RX2 yX2_add yX2_add, Cond.initialized RX2, Cond.code yX2_add cX2_add 7 none, Cond.fieldLink RX2 30 "GainsReckoner$Matches" "size" "I", Cond.fieldLink RX2 9 "GainsReckoner$Matches" "kind" "[I", Cond.fieldLink RX2 15 "GainsReckoner$Matches" "soldOn" "[I", Cond.fieldLink RX2 18 "GainsReckoner$Matches" "boughtOn" "[I", Cond.fieldLink RX2 21 "GainsReckoner$Matches" "units" "[I", Cond.fieldLink RX2 24 "GainsReckoner$Matches" "cost" "[I", Cond.fieldLink RX2 27 "GainsReckoner$Matches" "proceeds" "[I", Cond.methodLink RX1 48 yX1_matchLaterDays, Cond.instanceMethod yX1_matchLaterDays, Cond.selects RX1 yX1_matchLaterDays yX1_matchLaterDays, Cond.code yX1_matchLaterDays cX1_matchLaterDays 9 none, Cond.methodLink RX1 109 yX1_takeBought, Cond.instanceMethod yX1_takeBought, Cond.selects RX1 yX1_takeBought yX1_takeBought, Cond.code yX1_takeBought cX1_takeBought 4 (some .int), Cond.methodLink RX1 112 yX1_takeSold, Cond.instanceMethod yX1_takeSold, Cond.selects RX1 yX1_takeSold yX1_takeSold, Cond.code yX1_takeSold cX1_takeSold 4 (some .int), Cond.methodLink RX1 52 yX1_pool, Cond.instanceMethod yX1_pool]
def wsL_buy_r7 : List Cond := [Cond.selects RX1 yX1_pool yX1_pool, Cond.code yX1_pool cX1_pool 7 none]
def wsL_buy : List Cond := .codeWith yL_buy cL_buy 7 (some .int) [(0, 14, 17, 13), (0, 14, 21, 15), (0, 14, 25, 17)] :: ((wsL_buy_r1 ++ (wsL_buy_r2 ++ (wsL_buy_r3 ++ (wsL_buy_r4 ++ (wsL_buy_r5 ++ (wsL_buy_r6 ++ wsL_buy_r7)))))) ++ wsX50 ++ wsX00 ++ wsX10 ++ wsX20 ++ wsX30 ++ wsX40 ++ (vx_atS RX5 92 "java/lang/IndexOutOfBoundsException" ["java/lang/RuntimeException", "java/lang/Exception"]).filter goodWord ++ (vx_atS RX5 60 "java/lang/IllegalArgumentException" ["java/lang/RuntimeException", "java/lang/Exception"]).filter goodWord ++ (vx_atS RX5 81 "java/lang/IllegalStateException" ["java/lang/RuntimeException", "java/lang/Exception"]).filter goodWord)
def wsL_sell_r1 : List Cond := [Cond.classLink RL 13 "java/lang/IndexOutOfBoundsException", Cond.classLink RL 15 "java/lang/IllegalArgumentException", Cond.classLink RL 17 "java/lang/IllegalStateException", Cond.methodLink RL 19 yX5_sell, Cond.instanceMethod yX5_sell, Cond.selects RX5 yX5_sell yX5_sell, Cond.initialized RX5, Cond.code yX5_sell cX5_sell 7 (some .int), Cond.fieldLink RX5 10 "GainsReckoner" "journal" "LGainsReckoner$Journal;", Cond.fieldLink RX5 29 "GainsReckoner" "window" "I", Cond.methodLink RX5 33 yX5_ledgerAt, Cond.instanceMethod yX5_ledgerAt, Cond.selects RX5 yX5_ledgerAt yX5_ledgerAt, Cond.code yX5_ledgerAt cX5_ledgerAt 4 (some (.object "GainsReckoner$Ledger")), Cond.classLink RX5 88 "java/lang/IndexOutOfBoundsException", Cond.initialized "java/lang/IndexOutOfBoundsException", Cond.methodLink RX5 139 yX5_ledgerOf, Cond.instanceMethod yX5_ledgerOf, Cond.selects RX5 yX5_ledgerOf yX5_ledgerOf, Cond.code yX5_ledgerOf cX5_ledgerOf 2 (some (.object "GainsReckoner$Ledger")), Cond.fieldLink RX5 18 "GainsReckoner" "ledgers" "[LGainsReckoner$Ledger;", Cond.methodLink RX5 37 yX5_checkTrade, Cond.static yX5_checkTrade, Cond.code yX5_checkTrade cX5_checkTrade 2 none]
def wsL_sell_r2 : List Cond := [Cond.classLink RX5 56 "java/lang/IllegalArgumentException", Cond.initialized "java/lang/IllegalArgumentException", Cond.methodLink RX5 114 yX5_checkMoney, Cond.static yX5_checkMoney, Cond.code yX5_checkMoney cX5_checkMoney 1 none, Cond.constant RX5 213 (1000000), Cond.methodLink RX5 41 yX5_checkRoomForTrade, Cond.instanceMethod yX5_checkRoomForTrade, Cond.selects RX5 yX5_checkRoomForTrade yX5_checkRoomForTrade, Cond.code yX5_checkRoomForTrade cX5_checkRoomForTrade 1 none, Cond.classLink RX5 77 "java/lang/IllegalStateException", Cond.initialized "java/lang/IllegalStateException", Cond.methodLink RX5 206 yX0_isFull, Cond.instanceMethod yX0_isFull, Cond.selects RX0 yX0_isFull yX0_isFull, Cond.initialized RX0, Cond.code yX0_isFull cX0_isFull 1 (some .boolean), Cond.fieldLink RX0 31 "GainsReckoner$Journal" "size" "I", Cond.methodLink RX5 52 yX5_checkCanSpare, Cond.static yX5_checkCanSpare, Cond.code yX5_checkCanSpare cX5_checkCanSpare 4 none, Cond.methodLink RX5 216 yX4_factorBetween, Cond.instanceMethod yX4_factorBetween, Cond.selects RX4 yX4_factorBetween yX4_factorBetween]
def wsL_sell_r3 : List Cond := [Cond.initialized RX4, Cond.code yX4_factorBetween cX4_factorBetween 5 (some .int), Cond.fieldLink RX4 18 "GainsReckoner$Splits" "size" "I", Cond.fieldLink RX4 9 "GainsReckoner$Splits" "day" "[I", Cond.fieldLink RX4 15 "GainsReckoner$Splits" "factor" "[I", Cond.methodLink RX5 219 yX3_leastUnitsFrom, Cond.instanceMethod yX3_leastUnitsFrom, Cond.selects RX3 yX3_leastUnitsFrom yX3_leastUnitsFrom, Cond.initialized RX3, Cond.code yX3_leastUnitsFrom cX3_leastUnitsFrom 5 (some .int), Cond.fieldLink RX3 39 "GainsReckoner$Sheet" "size" "I", Cond.fieldLink RX3 9 "GainsReckoner$Sheet" "day" "[I", Cond.fieldLink RX3 15 "GainsReckoner$Sheet" "bought" "[I", Cond.fieldLink RX3 24 "GainsReckoner$Sheet" "sold" "[I", Cond.methodLink RX3 86 Lib.Math.min.name, Cond.static Lib.Math.min.name, Cond.initialized "java/lang/Math", Cond.code Lib.Math.min.name Lib.Math.min.code 2 (some .int), Cond.methodLink RX5 44 yX0_enter, Cond.instanceMethod yX0_enter, Cond.selects RX0 yX0_enter yX0_enter, Cond.code yX0_enter cX0_enter 7 (some .int), Cond.fieldLink RX0 9 "GainsReckoner$Journal" "sale" "[Z", Cond.fieldLink RX0 18 "GainsReckoner$Journal" "share" "[I"]
def wsL_sell_r4 : List Cond := [Cond.fieldLink RX0 22 "GainsReckoner$Journal" "day" "[I", Cond.fieldLink RX0 25 "GainsReckoner$Journal" "count" "[I", Cond.fieldLink RX0 28 "GainsReckoner$Journal" "money" "[I", Cond.methodLink RX0 35 yX0_isFull, Cond.methodLink RX5 48 yX1_reckon, Cond.instanceMethod yX1_reckon, Cond.selects RX1 yX1_reckon yX1_reckon, Cond.initialized RX1, Cond.code yX1_reckon cX1_reckon 4 none, Cond.fieldLink RX1 21 "GainsReckoner$Ledger" "sheet" "LGainsReckoner$Sheet;", Cond.fieldLink RX1 32 "GainsReckoner$Ledger" "share" "I", Cond.fieldLink RX1 12 "GainsReckoner$Ledger" "splits" "LGainsReckoner$Splits;", Cond.fieldLink RX1 28 "GainsReckoner$Ledger" "matched" "LGainsReckoner$Matches;", Cond.methodLink RX1 36 yX3_fill, Cond.instanceMethod yX3_fill, Cond.selects RX3 yX3_fill yX3_fill, Cond.code yX3_fill cX3_fill 6 none, Cond.methodLink RX3 43 yX3_openRows, Cond.instanceMethod yX3_openRows, Cond.selects RX3 yX3_openRows yX3_openRows, Cond.code yX3_openRows cX3_openRows 4 none, Cond.fieldLink RX3 21 "GainsReckoner$Sheet" "cost" "[I", Cond.fieldLink RX3 30 "GainsReckoner$Sheet" "proceeds" "[I", Cond.methodLink RX3 50 yX0_counts]
def wsL_sell_r5 : List Cond := [Cond.instanceMethod yX0_counts, Cond.selects RX0 yX0_counts yX0_counts, Cond.code yX0_counts cX0_counts 3 (some .boolean), Cond.fieldLink RX0 15 "GainsReckoner$Journal" "cancelled" "[Z", Cond.methodLink RX3 71 yX3_openRow, Cond.instanceMethod yX3_openRow, Cond.selects RX3 yX3_openRow yX3_openRow, Cond.code yX3_openRow cX3_openRow 4 none, Cond.methodLink RX3 75 yX3_lastRowUpTo, Cond.instanceMethod yX3_lastRowUpTo, Cond.selects RX3 yX3_lastRowUpTo yX3_lastRowUpTo, Cond.code yX3_lastRowUpTo cX3_lastRowUpTo 4 (some .int), Cond.methodLink RX3 58 yX4_factorBetween, Cond.methodLink RX3 64 yX3_addTrade, Cond.instanceMethod yX3_addTrade, Cond.selects RX3 yX3_addTrade yX3_addTrade, Cond.code yX3_addTrade cX3_addTrade 5 none, Cond.methodLink RX3 68 yX3_setSameDaysAside, Cond.instanceMethod yX3_setSameDaysAside, Cond.selects RX3 yX3_setSameDaysAside yX3_setSameDaysAside, Cond.code yX3_setSameDaysAside cX3_setSameDaysAside 3 none, Cond.fieldLink RX3 18 "GainsReckoner$Sheet" "boughtGone" "[I", Cond.fieldLink RX3 27 "GainsReckoner$Sheet" "soldGone" "[I", Cond.methodLink RX1 44 yX1_matchSameDay]
def wsL_sell_r6 : List Cond := [Cond.instanceMethod yX1_matchSameDay, Cond.selects RX1 yX1_matchSameDay yX1_matchSameDay, Cond.code yX1_matchSameDay cX1_matchSameDay 5 none, Cond.methodLink RX1 83 Lib.Math.min.name, Cond.static yX5_part, Cond.code yX5_part cX5_part 4 (some .int), Cond.methodLink RX1 99 yX2_add, Cond.instanceMethod yX2_add, Cond.selects RX2 yX2_add yX2_add, Cond.initialized RX2, Cond.code yX2_add cX2_add 7 none, Cond.fieldLink RX2 30 "GainsReckoner$Matches" "size" "I", Cond.fieldLink RX2 9 "GainsReckoner$Matches" "kind" "[I", Cond.fieldLink RX2 15 "GainsReckoner$Matches" "soldOn" "[I", Cond.fieldLink RX2 18 "GainsReckoner$Matches" "boughtOn" "[I", Cond.fieldLink RX2 21 "GainsReckoner$Matches" "units" "[I", Cond.fieldLink RX2 24 "GainsReckoner$Matches" "cost" "[I", Cond.fieldLink RX2 27 "GainsReckoner$Matches" "proceeds" "[I", Cond.methodLink RX1 48 yX1_matchLaterDays, Cond.instanceMethod yX1_matchLaterDays, Cond.selects RX1 yX1_matchLaterDays yX1_matchLaterDays, Cond.code yX1_matchLaterDays cX1_matchLaterDays 9 none, Cond.methodLink RX1 109 yX1_takeBought, Cond.instanceMethod yX1_takeBought]
def wsL_sell_r7 : List Cond := [Cond.selects RX1 yX1_takeBought yX1_takeBought, Cond.code yX1_takeBought cX1_takeBought 4 (some .int), Cond.methodLink RX1 112 yX1_takeSold, Cond.instanceMethod yX1_takeSold, Cond.selects RX1 yX1_takeSold yX1_takeSold, Cond.code yX1_takeSold cX1_takeSold 4 (some .int), Cond.methodLink RX1 52 yX1_pool, Cond.instanceMethod yX1_pool, Cond.selects RX1 yX1_pool yX1_pool, Cond.code yX1_pool cX1_pool 7 none]
def wsL_sell : List Cond := .codeWith yL_sell cL_sell 7 (some .int) [(0, 14, 17, 13), (0, 14, 21, 15), (0, 14, 25, 17)] :: ((wsL_sell_r1 ++ (wsL_sell_r2 ++ (wsL_sell_r3 ++ (wsL_sell_r4 ++ (wsL_sell_r5 ++ (wsL_sell_r6 ++ wsL_sell_r7)))))) ++ wsX50 ++ wsX00 ++ wsX10 ++ wsX40 ++ wsX30 ++ wsX20 ++ (vx_atS RX5 92 "java/lang/IndexOutOfBoundsException" ["java/lang/RuntimeException", "java/lang/Exception"]).filter goodWord ++ (vx_atS RX5 60 "java/lang/IllegalArgumentException" ["java/lang/RuntimeException", "java/lang/Exception"]).filter goodWord ++ (vx_atS RX5 81 "java/lang/IllegalStateException" ["java/lang/RuntimeException", "java/lang/Exception"]).filter goodWord)
def wsL_split_r1 : List Cond := [Cond.classLink RL 13 "java/lang/IndexOutOfBoundsException", Cond.classLink RL 15 "java/lang/IllegalArgumentException", Cond.classLink RL 17 "java/lang/IllegalStateException", Cond.methodLink RL 22 yX5_split, Cond.instanceMethod yX5_split, Cond.selects RX5 yX5_split yX5_split, Cond.initialized RX5, Cond.code yX5_split cX5_split 5 (some .int), Cond.classLink RX5 56 "java/lang/IllegalArgumentException", Cond.initialized "java/lang/IllegalArgumentException", Cond.classLink RX5 77 "java/lang/IllegalStateException", Cond.initialized "java/lang/IllegalStateException", Cond.fieldLink RX5 10 "GainsReckoner" "journal" "LGainsReckoner$Journal;", Cond.fieldLink RX5 29 "GainsReckoner" "window" "I", Cond.methodLink RX5 33 yX5_ledgerAt, Cond.instanceMethod yX5_ledgerAt, Cond.selects RX5 yX5_ledgerAt yX5_ledgerAt, Cond.code yX5_ledgerAt cX5_ledgerAt 4 (some (.object "GainsReckoner$Ledger")), Cond.classLink RX5 88 "java/lang/IndexOutOfBoundsException", Cond.initialized "java/lang/IndexOutOfBoundsException", Cond.methodLink RX5 139 yX5_ledgerOf, Cond.instanceMethod yX5_ledgerOf, Cond.selects RX5 yX5_ledgerOf yX5_ledgerOf, Cond.code yX5_ledgerOf cX5_ledgerOf 2 (some (.object "GainsReckoner$Ledger"))]
def wsL_split_r2 : List Cond := [Cond.fieldLink RX5 18 "GainsReckoner" "ledgers" "[LGainsReckoner$Ledger;", Cond.methodLink RX5 67 yX4_isFull, Cond.instanceMethod yX4_isFull, Cond.selects RX4 yX4_isFull yX4_isFull, Cond.initialized RX4, Cond.code yX4_isFull cX4_isFull 1 (some .boolean), Cond.fieldLink RX4 18 "GainsReckoner$Splits" "size" "I", Cond.methodLink RX5 73 yX4_hasDay, Cond.instanceMethod yX4_hasDay, Cond.selects RX4 yX4_hasDay yX4_hasDay, Cond.code yX4_hasDay cX4_hasDay 3 (some .boolean), Cond.fieldLink RX4 9 "GainsReckoner$Splits" "day" "[I", Cond.methodLink RX5 82 yX4_enter, Cond.instanceMethod yX4_enter, Cond.selects RX4 yX4_enter yX4_enter, Cond.code yX4_enter cX4_enter 3 none, Cond.fieldLink RX4 15 "GainsReckoner$Splits" "factor" "[I", Cond.methodLink RX4 22 yX4_isFull, Cond.methodLink RX5 48 yX1_reckon, Cond.instanceMethod yX1_reckon, Cond.selects RX1 yX1_reckon yX1_reckon, Cond.initialized RX1, Cond.code yX1_reckon cX1_reckon 4 none, Cond.fieldLink RX1 21 "GainsReckoner$Ledger" "sheet" "LGainsReckoner$Sheet;"]
def wsL_split_r3 : List Cond := [Cond.fieldLink RX1 32 "GainsReckoner$Ledger" "share" "I", Cond.fieldLink RX1 12 "GainsReckoner$Ledger" "splits" "LGainsReckoner$Splits;", Cond.fieldLink RX1 28 "GainsReckoner$Ledger" "matched" "LGainsReckoner$Matches;", Cond.methodLink RX1 36 yX3_fill, Cond.instanceMethod yX3_fill, Cond.selects RX3 yX3_fill yX3_fill, Cond.initialized RX3, Cond.code yX3_fill cX3_fill 6 none, Cond.methodLink RX3 43 yX3_openRows, Cond.instanceMethod yX3_openRows, Cond.selects RX3 yX3_openRows yX3_openRows, Cond.code yX3_openRows cX3_openRows 4 none, Cond.fieldLink RX3 39 "GainsReckoner$Sheet" "size" "I", Cond.fieldLink RX3 15 "GainsReckoner$Sheet" "bought" "[I", Cond.fieldLink RX3 21 "GainsReckoner$Sheet" "cost" "[I", Cond.fieldLink RX3 24 "GainsReckoner$Sheet" "sold" "[I", Cond.fieldLink RX3 30 "GainsReckoner$Sheet" "proceeds" "[I", Cond.methodLink RX3 50 yX0_counts, Cond.instanceMethod yX0_counts, Cond.selects RX0 yX0_counts yX0_counts, Cond.initialized RX0, Cond.code yX0_counts cX0_counts 3 (some .boolean), Cond.fieldLink RX0 18 "GainsReckoner$Journal" "share" "[I", Cond.fieldLink RX0 15 "GainsReckoner$Journal" "cancelled" "[Z"]
def wsL_split_r4 : List Cond := [Cond.methodLink RX3 71 yX3_openRow, Cond.instanceMethod yX3_openRow, Cond.selects RX3 yX3_openRow yX3_openRow, Cond.code yX3_openRow cX3_openRow 4 none, Cond.fieldLink RX3 9 "GainsReckoner$Sheet" "day" "[I", Cond.methodLink RX3 75 yX3_lastRowUpTo, Cond.instanceMethod yX3_lastRowUpTo, Cond.selects RX3 yX3_lastRowUpTo yX3_lastRowUpTo, Cond.code yX3_lastRowUpTo cX3_lastRowUpTo 4 (some .int), Cond.methodLink RX3 58 yX4_factorBetween, Cond.instanceMethod yX4_factorBetween, Cond.selects RX4 yX4_factorBetween yX4_factorBetween, Cond.code yX4_factorBetween cX4_factorBetween 5 (some .int), Cond.methodLink RX3 64 yX3_addTrade, Cond.instanceMethod yX3_addTrade, Cond.selects RX3 yX3_addTrade yX3_addTrade, Cond.code yX3_addTrade cX3_addTrade 5 none, Cond.methodLink RX3 68 yX3_setSameDaysAside, Cond.instanceMethod yX3_setSameDaysAside, Cond.selects RX3 yX3_setSameDaysAside yX3_setSameDaysAside, Cond.code yX3_setSameDaysAside cX3_setSameDaysAside 3 none, Cond.methodLink RX3 86 Lib.Math.min.name, Cond.static Lib.Math.min.name, Cond.initialized "java/lang/Math"]
def wsL_split_r5 : List Cond := [Cond.code Lib.Math.min.name Lib.Math.min.code 2 (some .int), Cond.fieldLink RX3 18 "GainsReckoner$Sheet" "boughtGone" "[I", Cond.fieldLink RX3 27 "GainsReckoner$Sheet" "soldGone" "[I", Cond.methodLink RX1 44 yX1_matchSameDay, Cond.instanceMethod yX1_matchSameDay, Cond.selects RX1 yX1_matchSameDay yX1_matchSameDay, Cond.code yX1_matchSameDay cX1_matchSameDay 5 none, Cond.methodLink RX1 83 Lib.Math.min.name, Cond.static yX5_part, Cond.code yX5_part cX5_part 4 (some .int), Cond.methodLink RX1 99 yX2_add, Cond.instanceMethod yX2_add, Cond.selects RX2 yX2_add yX2_add, Cond.initialized RX2, Cond.code yX2_add cX2_add 7 none, Cond.fieldLink RX2 30 "GainsReckoner$Matches" "size" "I", Cond.fieldLink RX2 9 "GainsReckoner$Matches" "kind" "[I", Cond.fieldLink RX2 15 "GainsReckoner$Matches" "soldOn" "[I", Cond.fieldLink RX2 18 "GainsReckoner$Matches" "boughtOn" "[I", Cond.fieldLink RX2 21 "GainsReckoner$Matches" "units" "[I", Cond.fieldLink RX2 24 "GainsReckoner$Matches" "cost" "[I", Cond.fieldLink RX2 27 "GainsReckoner$Matches" "proceeds" "[I", Cond.methodLink RX1 48 yX1_matchLaterDays, Cond.instanceMethod yX1_matchLaterDays]
def wsL_split_r6 : List Cond := [Cond.selects RX1 yX1_matchLaterDays yX1_matchLaterDays, Cond.code yX1_matchLaterDays cX1_matchLaterDays 9 none, Cond.methodLink RX1 109 yX1_takeBought, Cond.instanceMethod yX1_takeBought, Cond.selects RX1 yX1_takeBought yX1_takeBought, Cond.code yX1_takeBought cX1_takeBought 4 (some .int), Cond.methodLink RX1 112 yX1_takeSold, Cond.instanceMethod yX1_takeSold, Cond.selects RX1 yX1_takeSold yX1_takeSold, Cond.code yX1_takeSold cX1_takeSold 4 (some .int), Cond.methodLink RX1 52 yX1_pool, Cond.instanceMethod yX1_pool, Cond.selects RX1 yX1_pool yX1_pool, Cond.code yX1_pool cX1_pool 7 none]
def wsL_split : List Cond := .codeWith yL_split cL_split 6 (some .int) [(0, 12, 15, 13), (0, 12, 19, 15), (0, 12, 23, 17)] :: ((wsL_split_r1 ++ (wsL_split_r2 ++ (wsL_split_r3 ++ (wsL_split_r4 ++ (wsL_split_r5 ++ wsL_split_r6))))) ++ wsX10 ++ wsX50 ++ wsX40 ++ wsX20 ++ wsX30 ++ wsX00 ++ (vx_atS RX5 60 "java/lang/IllegalArgumentException" ["java/lang/RuntimeException", "java/lang/Exception"]).filter goodWord ++ (vx_atS RX5 81 "java/lang/IllegalStateException" ["java/lang/RuntimeException", "java/lang/Exception"]).filter goodWord ++ (vx_atS RX5 92 "java/lang/IndexOutOfBoundsException" ["java/lang/RuntimeException", "java/lang/Exception"]).filter goodWord)
def wsL_cancel_r1 : List Cond := [Cond.classLink RL 13 "java/lang/IndexOutOfBoundsException", Cond.classLink RL 17 "java/lang/IllegalStateException", Cond.methodLink RL 26 yX5_cancel, Cond.instanceMethod yX5_cancel, Cond.selects RX5 yX5_cancel yX5_cancel, Cond.initialized RX5, Cond.code yX5_cancel cX5_cancel 3 none, Cond.classLink RX5 88 "java/lang/IndexOutOfBoundsException", Cond.initialized "java/lang/IndexOutOfBoundsException", Cond.classLink RX5 77 "java/lang/IllegalStateException", Cond.initialized "java/lang/IllegalStateException", Cond.fieldLink RX5 10 "GainsReckoner" "journal" "LGainsReckoner$Journal;", Cond.fieldLink RX5 29 "GainsReckoner" "window" "I", Cond.methodLink RX5 33 yX5_ledgerAt, Cond.instanceMethod yX5_ledgerAt, Cond.selects RX5 yX5_ledgerAt yX5_ledgerAt, Cond.code yX5_ledgerAt cX5_ledgerAt 4 (some (.object "GainsReckoner$Ledger")), Cond.methodLink RX5 139 yX5_ledgerOf, Cond.instanceMethod yX5_ledgerOf, Cond.selects RX5 yX5_ledgerOf yX5_ledgerOf, Cond.code yX5_ledgerOf cX5_ledgerOf 2 (some (.object "GainsReckoner$Ledger")), Cond.fieldLink RX5 18 "GainsReckoner" "ledgers" "[LGainsReckoner$Ledger;", Cond.methodLink RX5 52 yX5_checkCanSpare, Cond.static yX5_checkCanSpare]
def wsL_cancel_r2 : List Cond := [Cond.code yX5_checkCanSpare cX5_checkCanSpare 4 none, Cond.methodLink RX5 216 yX4_factorBetween, Cond.instanceMethod yX4_factorBetween, Cond.selects RX4 yX4_factorBetween yX4_factorBetween, Cond.initialized RX4, Cond.code yX4_factorBetween cX4_factorBetween 5 (some .int), Cond.fieldLink RX4 18 "GainsReckoner$Splits" "size" "I", Cond.fieldLink RX4 9 "GainsReckoner$Splits" "day" "[I", Cond.fieldLink RX4 15 "GainsReckoner$Splits" "factor" "[I", Cond.methodLink RX5 219 yX3_leastUnitsFrom, Cond.instanceMethod yX3_leastUnitsFrom, Cond.selects RX3 yX3_leastUnitsFrom yX3_leastUnitsFrom, Cond.initialized RX3, Cond.code yX3_leastUnitsFrom cX3_leastUnitsFrom 5 (some .int), Cond.fieldLink RX3 39 "GainsReckoner$Sheet" "size" "I", Cond.fieldLink RX3 9 "GainsReckoner$Sheet" "day" "[I", Cond.fieldLink RX3 15 "GainsReckoner$Sheet" "bought" "[I", Cond.fieldLink RX3 24 "GainsReckoner$Sheet" "sold" "[I", Cond.methodLink RX3 86 Lib.Math.min.name, Cond.static Lib.Math.min.name, Cond.initialized "java/lang/Math", Cond.code Lib.Math.min.name Lib.Math.min.code 2 (some .int), Cond.methodLink RX5 48 yX1_reckon, Cond.instanceMethod yX1_reckon]
def wsL_cancel_r3 : List Cond := [Cond.selects RX1 yX1_reckon yX1_reckon, Cond.initialized RX1, Cond.code yX1_reckon cX1_reckon 4 none, Cond.fieldLink RX1 21 "GainsReckoner$Ledger" "sheet" "LGainsReckoner$Sheet;", Cond.fieldLink RX1 32 "GainsReckoner$Ledger" "share" "I", Cond.fieldLink RX1 12 "GainsReckoner$Ledger" "splits" "LGainsReckoner$Splits;", Cond.fieldLink RX1 28 "GainsReckoner$Ledger" "matched" "LGainsReckoner$Matches;", Cond.methodLink RX1 36 yX3_fill, Cond.instanceMethod yX3_fill, Cond.selects RX3 yX3_fill yX3_fill, Cond.code yX3_fill cX3_fill 6 none, Cond.methodLink RX3 43 yX3_openRows, Cond.instanceMethod yX3_openRows, Cond.selects RX3 yX3_openRows yX3_openRows, Cond.code yX3_openRows cX3_openRows 4 none, Cond.fieldLink RX3 21 "GainsReckoner$Sheet" "cost" "[I", Cond.fieldLink RX3 30 "GainsReckoner$Sheet" "proceeds" "[I", Cond.methodLink RX3 50 yX0_counts, Cond.instanceMethod yX0_counts, Cond.selects RX0 yX0_counts yX0_counts, Cond.initialized RX0, Cond.code yX0_counts cX0_counts 3 (some .boolean), Cond.fieldLink RX0 18 "GainsReckoner$Journal" "share" "[I", Cond.fieldLink RX0 15 "GainsReckoner$Journal" "cancelled" "[Z"]
def wsL_cancel_r4 : List Cond := [Cond.methodLink RX3 71 yX3_openRow, Cond.instanceMethod yX3_openRow, Cond.selects RX3 yX3_openRow yX3_openRow, Cond.code yX3_openRow cX3_openRow 4 none, Cond.methodLink RX3 75 yX3_lastRowUpTo, Cond.instanceMethod yX3_lastRowUpTo, Cond.selects RX3 yX3_lastRowUpTo yX3_lastRowUpTo, Cond.code yX3_lastRowUpTo cX3_lastRowUpTo 4 (some .int), Cond.methodLink RX3 58 yX4_factorBetween, Cond.methodLink RX3 64 yX3_addTrade, Cond.instanceMethod yX3_addTrade, Cond.selects RX3 yX3_addTrade yX3_addTrade, Cond.code yX3_addTrade cX3_addTrade 5 none, Cond.methodLink RX3 68 yX3_setSameDaysAside, Cond.instanceMethod yX3_setSameDaysAside, Cond.selects RX3 yX3_setSameDaysAside yX3_setSameDaysAside, Cond.code yX3_setSameDaysAside cX3_setSameDaysAside 3 none, Cond.fieldLink RX3 18 "GainsReckoner$Sheet" "boughtGone" "[I", Cond.fieldLink RX3 27 "GainsReckoner$Sheet" "soldGone" "[I", Cond.methodLink RX1 44 yX1_matchSameDay, Cond.instanceMethod yX1_matchSameDay, Cond.selects RX1 yX1_matchSameDay yX1_matchSameDay, Cond.code yX1_matchSameDay cX1_matchSameDay 5 none, Cond.methodLink RX1 83 Lib.Math.min.name]
def wsL_cancel_r5 : List Cond := [Cond.static yX5_part, Cond.code yX5_part cX5_part 4 (some .int), Cond.methodLink RX1 99 yX2_add, Cond.instanceMethod yX2_add, Cond.selects RX2 yX2_add yX2_add, Cond.initialized RX2, Cond.code yX2_add cX2_add 7 none, Cond.fieldLink RX2 30 "GainsReckoner$Matches" "size" "I", Cond.fieldLink RX2 9 "GainsReckoner$Matches" "kind" "[I", Cond.fieldLink RX2 15 "GainsReckoner$Matches" "soldOn" "[I", Cond.fieldLink RX2 18 "GainsReckoner$Matches" "boughtOn" "[I", Cond.fieldLink RX2 21 "GainsReckoner$Matches" "units" "[I", Cond.fieldLink RX2 24 "GainsReckoner$Matches" "cost" "[I", Cond.fieldLink RX2 27 "GainsReckoner$Matches" "proceeds" "[I", Cond.methodLink RX1 48 yX1_matchLaterDays, Cond.instanceMethod yX1_matchLaterDays, Cond.selects RX1 yX1_matchLaterDays yX1_matchLaterDays, Cond.code yX1_matchLaterDays cX1_matchLaterDays 9 none, Cond.methodLink RX1 109 yX1_takeBought, Cond.instanceMethod yX1_takeBought, Cond.selects RX1 yX1_takeBought yX1_takeBought, Cond.code yX1_takeBought cX1_takeBought 4 (some .int), Cond.methodLink RX1 112 yX1_takeSold, Cond.instanceMethod yX1_takeSold]
def wsL_cancel_r6 : List Cond := [Cond.selects RX1 yX1_takeSold yX1_takeSold, Cond.code yX1_takeSold cX1_takeSold 4 (some .int), Cond.methodLink RX1 52 yX1_pool, Cond.instanceMethod yX1_pool, Cond.selects RX1 yX1_pool yX1_pool, Cond.code yX1_pool cX1_pool 7 none]
def wsL_cancel : List Cond := .codeWith yL_cancel cL_cancel 3 (some .int) [(0, 5, 8, 13), (0, 5, 11, 17)] :: ((wsL_cancel_r1 ++ (wsL_cancel_r2 ++ (wsL_cancel_r3 ++ (wsL_cancel_r4 ++ (wsL_cancel_r5 ++ wsL_cancel_r6))))) ++ wsX50 ++ wsX00 ++ wsX10 ++ wsX40 ++ wsX30 ++ wsX20 ++ (vx_atS RX5 92 "java/lang/IndexOutOfBoundsException" ["java/lang/RuntimeException", "java/lang/Exception"]).filter goodWord ++ (vx_atS RX5 81 "java/lang/IllegalStateException" ["java/lang/RuntimeException", "java/lang/Exception"]).filter goodWord)
def wsL_setAllowance : List Cond := .codeWith yL_setAllowance cL_setAllowance 5 (some .int) [(0, 10, 13, 13), (0, 10, 17, 15)] :: ([.classLink RL 13 "java/lang/IndexOutOfBoundsException", .classLink RL 15 "java/lang/IllegalArgumentException", .methodLink RL 30 yX5_setAllowance, .instanceMethod yX5_setAllowance, .selects RX5 yX5_setAllowance yX5_setAllowance, .initialized RX5, .code yX5_setAllowance cX5_setAllowance 4 (some .int), .fieldLink RX5 25 "GainsReckoner" "allowances" "[I", .methodLink RX5 111 yX5_checkYear, .static yX5_checkYear, .code yX5_checkYear cX5_checkYear 1 none, .classLink RX5 88 "java/lang/IndexOutOfBoundsException", .initialized "java/lang/IndexOutOfBoundsException", .methodLink RX5 114 yX5_checkMoney, .static yX5_checkMoney, .code yX5_checkMoney cX5_checkMoney 1 none, .classLink RX5 56 "java/lang/IllegalArgumentException", .initialized "java/lang/IllegalArgumentException", .constant RX5 213 (1000000)] ++ wsX50 ++ (vx_atS RX5 92 "java/lang/IndexOutOfBoundsException" ["java/lang/RuntimeException", "java/lang/Exception"]).filter goodWord ++ (vx_atS RX5 60 "java/lang/IllegalArgumentException" ["java/lang/RuntimeException", "java/lang/Exception"]).filter goodWord)
def wsL_setWindow_r1 : List Cond := [Cond.classLink RL 15 "java/lang/IllegalArgumentException", Cond.methodLink RL 34 yX5_setWindow, Cond.instanceMethod yX5_setWindow, Cond.selects RX5 yX5_setWindow yX5_setWindow, Cond.initialized RX5, Cond.code yX5_setWindow cX5_setWindow 4 (some .int), Cond.classLink RX5 56 "java/lang/IllegalArgumentException", Cond.initialized "java/lang/IllegalArgumentException", Cond.fieldLink RX5 29 "GainsReckoner" "window" "I", Cond.fieldLink RX5 18 "GainsReckoner" "ledgers" "[LGainsReckoner$Ledger;", Cond.fieldLink RX5 10 "GainsReckoner" "journal" "LGainsReckoner$Journal;", Cond.methodLink RX5 48 yX1_reckon, Cond.instanceMethod yX1_reckon, Cond.selects RX1 yX1_reckon yX1_reckon, Cond.initialized RX1, Cond.code yX1_reckon cX1_reckon 4 none, Cond.fieldLink RX1 21 "GainsReckoner$Ledger" "sheet" "LGainsReckoner$Sheet;", Cond.fieldLink RX1 32 "GainsReckoner$Ledger" "share" "I", Cond.fieldLink RX1 12 "GainsReckoner$Ledger" "splits" "LGainsReckoner$Splits;", Cond.fieldLink RX1 28 "GainsReckoner$Ledger" "matched" "LGainsReckoner$Matches;", Cond.methodLink RX1 36 yX3_fill, Cond.instanceMethod yX3_fill, Cond.selects RX3 yX3_fill yX3_fill, Cond.initialized RX3]
def wsL_setWindow_r2 : List Cond := [Cond.code yX3_fill cX3_fill 6 none, Cond.methodLink RX3 43 yX3_openRows, Cond.instanceMethod yX3_openRows, Cond.selects RX3 yX3_openRows yX3_openRows, Cond.code yX3_openRows cX3_openRows 4 none, Cond.fieldLink RX3 39 "GainsReckoner$Sheet" "size" "I", Cond.fieldLink RX3 15 "GainsReckoner$Sheet" "bought" "[I", Cond.fieldLink RX3 21 "GainsReckoner$Sheet" "cost" "[I", Cond.fieldLink RX3 24 "GainsReckoner$Sheet" "sold" "[I", Cond.fieldLink RX3 30 "GainsReckoner$Sheet" "proceeds" "[I", Cond.methodLink RX3 50 yX0_counts, Cond.instanceMethod yX0_counts, Cond.selects RX0 yX0_counts yX0_counts, Cond.initialized RX0, Cond.code yX0_counts cX0_counts 3 (some .boolean), Cond.fieldLink RX0 18 "GainsReckoner$Journal" "share" "[I", Cond.fieldLink RX0 15 "GainsReckoner$Journal" "cancelled" "[Z", Cond.methodLink RX3 71 yX3_openRow, Cond.instanceMethod yX3_openRow, Cond.selects RX3 yX3_openRow yX3_openRow, Cond.code yX3_openRow cX3_openRow 4 none, Cond.fieldLink RX3 9 "GainsReckoner$Sheet" "day" "[I", Cond.methodLink RX3 75 yX3_lastRowUpTo, Cond.instanceMethod yX3_lastRowUpTo]
def wsL_setWindow_r3 : List Cond := [Cond.selects RX3 yX3_lastRowUpTo yX3_lastRowUpTo, Cond.code yX3_lastRowUpTo cX3_lastRowUpTo 4 (some .int), Cond.methodLink RX3 58 yX4_factorBetween, Cond.instanceMethod yX4_factorBetween, Cond.selects RX4 yX4_factorBetween yX4_factorBetween, Cond.initialized RX4, Cond.code yX4_factorBetween cX4_factorBetween 5 (some .int), Cond.fieldLink RX4 18 "GainsReckoner$Splits" "size" "I", Cond.fieldLink RX4 9 "GainsReckoner$Splits" "day" "[I", Cond.fieldLink RX4 15 "GainsReckoner$Splits" "factor" "[I", Cond.methodLink RX3 64 yX3_addTrade, Cond.instanceMethod yX3_addTrade, Cond.selects RX3 yX3_addTrade yX3_addTrade, Cond.code yX3_addTrade cX3_addTrade 5 none, Cond.methodLink RX3 68 yX3_setSameDaysAside, Cond.instanceMethod yX3_setSameDaysAside, Cond.selects RX3 yX3_setSameDaysAside yX3_setSameDaysAside, Cond.code yX3_setSameDaysAside cX3_setSameDaysAside 3 none, Cond.methodLink RX3 86 Lib.Math.min.name, Cond.static Lib.Math.min.name, Cond.initialized "java/lang/Math", Cond.code Lib.Math.min.name Lib.Math.min.code 2 (some .int), Cond.fieldLink RX3 18 "GainsReckoner$Sheet" "boughtGone" "[I", Cond.fieldLink RX3 27 "GainsReckoner$Sheet" "soldGone" "[I"]
def wsL_setWindow_r4 : List Cond := [Cond.methodLink RX1 44 yX1_matchSameDay, Cond.instanceMethod yX1_matchSameDay, Cond.selects RX1 yX1_matchSameDay yX1_matchSameDay, Cond.code yX1_matchSameDay cX1_matchSameDay 5 none, Cond.methodLink RX1 83 Lib.Math.min.name, Cond.static yX5_part, Cond.code yX5_part cX5_part 4 (some .int), Cond.methodLink RX1 99 yX2_add, Cond.instanceMethod yX2_add, Cond.selects RX2 yX2_add yX2_add, Cond.initialized RX2, Cond.code yX2_add cX2_add 7 none, Cond.fieldLink RX2 30 "GainsReckoner$Matches" "size" "I", Cond.fieldLink RX2 9 "GainsReckoner$Matches" "kind" "[I", Cond.fieldLink RX2 15 "GainsReckoner$Matches" "soldOn" "[I", Cond.fieldLink RX2 18 "GainsReckoner$Matches" "boughtOn" "[I", Cond.fieldLink RX2 21 "GainsReckoner$Matches" "units" "[I", Cond.fieldLink RX2 24 "GainsReckoner$Matches" "cost" "[I", Cond.fieldLink RX2 27 "GainsReckoner$Matches" "proceeds" "[I", Cond.methodLink RX1 48 yX1_matchLaterDays, Cond.instanceMethod yX1_matchLaterDays, Cond.selects RX1 yX1_matchLaterDays yX1_matchLaterDays, Cond.code yX1_matchLaterDays cX1_matchLaterDays 9 none, Cond.methodLink RX1 109 yX1_takeBought]
def wsL_setWindow_r5 : List Cond := [Cond.instanceMethod yX1_takeBought, Cond.selects RX1 yX1_takeBought yX1_takeBought, Cond.code yX1_takeBought cX1_takeBought 4 (some .int), Cond.methodLink RX1 112 yX1_takeSold, Cond.instanceMethod yX1_takeSold, Cond.selects RX1 yX1_takeSold yX1_takeSold, Cond.code yX1_takeSold cX1_takeSold 4 (some .int), Cond.methodLink RX1 52 yX1_pool, Cond.instanceMethod yX1_pool, Cond.selects RX1 yX1_pool yX1_pool, Cond.code yX1_pool cX1_pool 7 none]
def wsL_setWindow : List Cond := .codeWith yL_setWindow cL_setWindow 4 (some .int) [(0, 9, 12, 15)] :: ((wsL_setWindow_r1 ++ (wsL_setWindow_r2 ++ (wsL_setWindow_r3 ++ (wsL_setWindow_r4 ++ wsL_setWindow_r5)))) ++ wsX50 ++ wsX10 ++ wsX20 ++ wsX30 ++ wsX00 ++ wsX40 ++ (vx_atS RX5 60 "java/lang/IllegalArgumentException" ["java/lang/RuntimeException", "java/lang/Exception"]).filter goodWord)
def wsL_holding_r1 : List Cond := [Cond.classLink RL 13 "java/lang/IndexOutOfBoundsException", Cond.methodLink RL 38 yX5_holding, Cond.instanceMethod yX5_holding, Cond.selects RX5 yX5_holding yX5_holding, Cond.initialized RX5, Cond.code yX5_holding cX5_holding 3 (some .int), Cond.fieldLink RX5 10 "GainsReckoner" "journal" "LGainsReckoner$Journal;", Cond.methodLink RX5 33 yX5_ledgerAt, Cond.instanceMethod yX5_ledgerAt, Cond.selects RX5 yX5_ledgerAt yX5_ledgerAt, Cond.code yX5_ledgerAt cX5_ledgerAt 4 (some (.object "GainsReckoner$Ledger")), Cond.classLink RX5 88 "java/lang/IndexOutOfBoundsException", Cond.initialized "java/lang/IndexOutOfBoundsException", Cond.methodLink RX5 139 yX5_ledgerOf, Cond.instanceMethod yX5_ledgerOf, Cond.selects RX5 yX5_ledgerOf yX5_ledgerOf, Cond.code yX5_ledgerOf cX5_ledgerOf 2 (some (.object "GainsReckoner$Ledger")), Cond.fieldLink RX5 18 "GainsReckoner" "ledgers" "[LGainsReckoner$Ledger;", Cond.methodLink RX5 119 yX1_heldShares, Cond.instanceMethod yX1_heldShares, Cond.selects RX1 yX1_heldShares yX1_heldShares, Cond.initialized RX1, Cond.code yX1_heldShares cX1_heldShares 7 (some .int), Cond.fieldLink RX1 32 "GainsReckoner$Ledger" "share" "I"]
def wsL_holding_r2 : List Cond := [Cond.fieldLink RX1 12 "GainsReckoner$Ledger" "splits" "LGainsReckoner$Splits;", Cond.methodLink RX1 62 yX0_counts, Cond.instanceMethod yX0_counts, Cond.selects RX0 yX0_counts yX0_counts, Cond.initialized RX0, Cond.code yX0_counts cX0_counts 3 (some .boolean), Cond.fieldLink RX0 18 "GainsReckoner$Journal" "share" "[I", Cond.fieldLink RX0 15 "GainsReckoner$Journal" "cancelled" "[Z", Cond.methodLink RX1 69 yX4_factorBetween, Cond.instanceMethod yX4_factorBetween, Cond.selects RX4 yX4_factorBetween yX4_factorBetween, Cond.initialized RX4, Cond.code yX4_factorBetween cX4_factorBetween 5 (some .int), Cond.fieldLink RX4 18 "GainsReckoner$Splits" "size" "I", Cond.fieldLink RX4 9 "GainsReckoner$Splits" "day" "[I", Cond.fieldLink RX4 15 "GainsReckoner$Splits" "factor" "[I"]
def wsL_holding : List Cond := .codeWith yL_holding cL_holding 5 (some .int) [(0, 10, 13, 13)] :: ((wsL_holding_r1 ++ wsL_holding_r2) ++ wsX50 ++ wsX00 ++ wsX10 ++ wsX40 ++ (vx_atS RX5 92 "java/lang/IndexOutOfBoundsException" ["java/lang/RuntimeException", "java/lang/Exception"]).filter goodWord)
def wsL_poolUnits : List Cond := .codeWith yL_poolUnits cL_poolUnits 5 (some .int) [(0, 10, 13, 13)] :: ([.classLink RL 13 "java/lang/IndexOutOfBoundsException", .methodLink RL 41 yX5_poolUnits, .instanceMethod yX5_poolUnits, .selects RX5 yX5_poolUnits yX5_poolUnits, .initialized RX5, .code yX5_poolUnits cX5_poolUnits 5 (some .int), .methodLink RX5 33 yX5_ledgerAt, .instanceMethod yX5_ledgerAt, .selects RX5 yX5_ledgerAt yX5_ledgerAt, .code yX5_ledgerAt cX5_ledgerAt 4 (some (.object "GainsReckoner$Ledger")), .classLink RX5 88 "java/lang/IndexOutOfBoundsException", .initialized "java/lang/IndexOutOfBoundsException", .methodLink RX5 139 yX5_ledgerOf, .instanceMethod yX5_ledgerOf, .selects RX5 yX5_ledgerOf yX5_ledgerOf, .code yX5_ledgerOf cX5_ledgerOf 2 (some (.object "GainsReckoner$Ledger")), .fieldLink RX5 18 "GainsReckoner" "ledgers" "[LGainsReckoner$Ledger;", .methodLink RX5 127 yX3_lastRowUpTo, .instanceMethod yX3_lastRowUpTo, .selects RX3 yX3_lastRowUpTo yX3_lastRowUpTo, .initialized RX3, .code yX3_lastRowUpTo cX3_lastRowUpTo 4 (some .int), .fieldLink RX3 39 "GainsReckoner$Sheet" "size" "I", .fieldLink RX3 9 "GainsReckoner$Sheet" "day" "[I"] ++ wsX10 ++ wsX30 ++ wsX50 ++ (vx_atS RX5 92 "java/lang/IndexOutOfBoundsException" ["java/lang/RuntimeException", "java/lang/Exception"]).filter goodWord)
def wsL_poolCost : List Cond := .codeWith yL_poolCost cL_poolCost 5 (some .int) [(0, 10, 13, 13)] :: ([.classLink RL 13 "java/lang/IndexOutOfBoundsException", .methodLink RL 44 yX5_poolCost, .instanceMethod yX5_poolCost, .selects RX5 yX5_poolCost yX5_poolCost, .initialized RX5, .code yX5_poolCost cX5_poolCost 5 (some .int), .methodLink RX5 33 yX5_ledgerAt, .instanceMethod yX5_ledgerAt, .selects RX5 yX5_ledgerAt yX5_ledgerAt, .code yX5_ledgerAt cX5_ledgerAt 4 (some (.object "GainsReckoner$Ledger")), .classLink RX5 88 "java/lang/IndexOutOfBoundsException", .initialized "java/lang/IndexOutOfBoundsException", .methodLink RX5 139 yX5_ledgerOf, .instanceMethod yX5_ledgerOf, .selects RX5 yX5_ledgerOf yX5_ledgerOf, .code yX5_ledgerOf cX5_ledgerOf 2 (some (.object "GainsReckoner$Ledger")), .fieldLink RX5 18 "GainsReckoner" "ledgers" "[LGainsReckoner$Ledger;", .methodLink RX5 127 yX3_lastRowUpTo, .instanceMethod yX3_lastRowUpTo, .selects RX3 yX3_lastRowUpTo yX3_lastRowUpTo, .initialized RX3, .code yX3_lastRowUpTo cX3_lastRowUpTo 4 (some .int), .fieldLink RX3 39 "GainsReckoner$Sheet" "size" "I", .fieldLink RX3 9 "GainsReckoner$Sheet" "day" "[I"] ++ wsX10 ++ wsX30 ++ wsX50 ++ (vx_atS RX5 92 "java/lang/IndexOutOfBoundsException" ["java/lang/RuntimeException", "java/lang/Exception"]).filter goodWord)
def wsL_costIn : List Cond := .codeWith yL_costIn cL_costIn 4 (some .int) [(0, 9, 12, 13)] :: ([.classLink RL 13 "java/lang/IndexOutOfBoundsException", .methodLink RL 47 yX5_costIn, .instanceMethod yX5_costIn, .selects RX5 yX5_costIn yX5_costIn, .initialized RX5, .code yX5_costIn cX5_costIn 2 (some .int), .methodLink RX5 139 yX5_ledgerOf, .instanceMethod yX5_ledgerOf, .selects RX5 yX5_ledgerOf yX5_ledgerOf, .code yX5_ledgerOf cX5_ledgerOf 2 (some (.object "GainsReckoner$Ledger")), .classLink RX5 88 "java/lang/IndexOutOfBoundsException", .initialized "java/lang/IndexOutOfBoundsException", .fieldLink RX5 18 "GainsReckoner" "ledgers" "[LGainsReckoner$Ledger;", .methodLink RX5 143 yX3_costOfBuys, .instanceMethod yX3_costOfBuys, .selects RX3 yX3_costOfBuys yX3_costOfBuys, .initialized RX3, .code yX3_costOfBuys cX3_costOfBuys 3 (some .int), .fieldLink RX3 39 "GainsReckoner$Sheet" "size" "I", .fieldLink RX3 21 "GainsReckoner$Sheet" "cost" "[I"] ++ wsX10 ++ wsX50 ++ wsX30 ++ (vx_atS RX5 92 "java/lang/IndexOutOfBoundsException" ["java/lang/RuntimeException", "java/lang/Exception"]).filter goodWord)
def wsL_costMatched : List Cond := .codeWith yL_costMatched cL_costMatched 4 (some .int) [(0, 9, 12, 13)] :: ([.classLink RL 13 "java/lang/IndexOutOfBoundsException", .methodLink RL 50 yX5_costMatched, .instanceMethod yX5_costMatched, .selects RX5 yX5_costMatched yX5_costMatched, .initialized RX5, .code yX5_costMatched cX5_costMatched 2 (some .int), .methodLink RX5 139 yX5_ledgerOf, .instanceMethod yX5_ledgerOf, .selects RX5 yX5_ledgerOf yX5_ledgerOf, .code yX5_ledgerOf cX5_ledgerOf 2 (some (.object "GainsReckoner$Ledger")), .classLink RX5 88 "java/lang/IndexOutOfBoundsException", .initialized "java/lang/IndexOutOfBoundsException", .fieldLink RX5 18 "GainsReckoner" "ledgers" "[LGainsReckoner$Ledger;", .methodLink RX5 151 yX2_costOfAll, .instanceMethod yX2_costOfAll, .selects RX2 yX2_costOfAll yX2_costOfAll, .initialized RX2, .code yX2_costOfAll cX2_costOfAll 3 (some .int), .fieldLink RX2 30 "GainsReckoner$Matches" "size" "I", .fieldLink RX2 24 "GainsReckoner$Matches" "cost" "[I"] ++ wsX10 ++ wsX50 ++ wsX20 ++ (vx_atS RX5 92 "java/lang/IndexOutOfBoundsException" ["java/lang/RuntimeException", "java/lang/Exception"]).filter goodWord)
def wsL_matches : List Cond := .codeWith yL_matches cL_matches 4 (some .int) [(0, 9, 12, 13)] :: ([.classLink RL 13 "java/lang/IndexOutOfBoundsException", .methodLink RL 53 yX5_matches, .instanceMethod yX5_matches, .selects RX5 yX5_matches yX5_matches, .initialized RX5, .code yX5_matches cX5_matches 2 (some .int), .methodLink RX5 139 yX5_ledgerOf, .instanceMethod yX5_ledgerOf, .selects RX5 yX5_ledgerOf yX5_ledgerOf, .code yX5_ledgerOf cX5_ledgerOf 2 (some (.object "GainsReckoner$Ledger")), .classLink RX5 88 "java/lang/IndexOutOfBoundsException", .initialized "java/lang/IndexOutOfBoundsException", .fieldLink RX5 18 "GainsReckoner" "ledgers" "[LGainsReckoner$Ledger;"] ++ wsX10 ++ wsX20 ++ wsX50 ++ (vx_atS RX5 92 "java/lang/IndexOutOfBoundsException" ["java/lang/RuntimeException", "java/lang/Exception"]).filter goodWord)
def wsL_kindOf : List Cond := .codeWith yL_kindOf cL_kindOf 5 (some .int) [(0, 10, 13, 13)] :: ([.classLink RL 13 "java/lang/IndexOutOfBoundsException", .methodLink RL 56 yX5_kindOf, .instanceMethod yX5_kindOf, .selects RX5 yX5_kindOf yX5_kindOf, .initialized RX5, .code yX5_kindOf cX5_kindOf 3 (some .int), .methodLink RX5 157 yX5_matchesWith, .instanceMethod yX5_matchesWith, .selects RX5 yX5_matchesWith yX5_matchesWith, .code yX5_matchesWith cX5_matchesWith 4 (some (.object "GainsReckoner$Matches")), .classLink RX5 88 "java/lang/IndexOutOfBoundsException", .initialized "java/lang/IndexOutOfBoundsException", .methodLink RX5 139 yX5_ledgerOf, .instanceMethod yX5_ledgerOf, .selects RX5 yX5_ledgerOf yX5_ledgerOf, .code yX5_ledgerOf cX5_ledgerOf 2 (some (.object "GainsReckoner$Ledger")), .fieldLink RX5 18 "GainsReckoner" "ledgers" "[LGainsReckoner$Ledger;"] ++ wsX20 ++ wsX10 ++ wsX50 ++ (vx_atS RX5 92 "java/lang/IndexOutOfBoundsException" ["java/lang/RuntimeException", "java/lang/Exception"]).filter goodWord)
def wsL_saleDay : List Cond := .codeWith yL_saleDay cL_saleDay 5 (some .int) [(0, 10, 13, 13)] :: ([.classLink RL 13 "java/lang/IndexOutOfBoundsException", .methodLink RL 59 yX5_saleDay, .instanceMethod yX5_saleDay, .selects RX5 yX5_saleDay yX5_saleDay, .initialized RX5, .code yX5_saleDay cX5_saleDay 3 (some .int), .methodLink RX5 157 yX5_matchesWith, .instanceMethod yX5_matchesWith, .selects RX5 yX5_matchesWith yX5_matchesWith, .code yX5_matchesWith cX5_matchesWith 4 (some (.object "GainsReckoner$Matches")), .classLink RX5 88 "java/lang/IndexOutOfBoundsException", .initialized "java/lang/IndexOutOfBoundsException", .methodLink RX5 139 yX5_ledgerOf, .instanceMethod yX5_ledgerOf, .selects RX5 yX5_ledgerOf yX5_ledgerOf, .code yX5_ledgerOf cX5_ledgerOf 2 (some (.object "GainsReckoner$Ledger")), .fieldLink RX5 18 "GainsReckoner" "ledgers" "[LGainsReckoner$Ledger;"] ++ wsX20 ++ wsX10 ++ wsX50 ++ (vx_atS RX5 92 "java/lang/IndexOutOfBoundsException" ["java/lang/RuntimeException", "java/lang/Exception"]).filter goodWord)
def wsL_buyDay : List Cond := .codeWith yL_buyDay cL_buyDay 5 (some .int) [(0, 10, 13, 13)] :: ([.classLink RL 13 "java/lang/IndexOutOfBoundsException", .methodLink RL 62 yX5_buyDay, .instanceMethod yX5_buyDay, .selects RX5 yX5_buyDay yX5_buyDay, .initialized RX5, .code yX5_buyDay cX5_buyDay 3 (some .int), .methodLink RX5 157 yX5_matchesWith, .instanceMethod yX5_matchesWith, .selects RX5 yX5_matchesWith yX5_matchesWith, .code yX5_matchesWith cX5_matchesWith 4 (some (.object "GainsReckoner$Matches")), .classLink RX5 88 "java/lang/IndexOutOfBoundsException", .initialized "java/lang/IndexOutOfBoundsException", .methodLink RX5 139 yX5_ledgerOf, .instanceMethod yX5_ledgerOf, .selects RX5 yX5_ledgerOf yX5_ledgerOf, .code yX5_ledgerOf cX5_ledgerOf 2 (some (.object "GainsReckoner$Ledger")), .fieldLink RX5 18 "GainsReckoner" "ledgers" "[LGainsReckoner$Ledger;"] ++ wsX20 ++ wsX10 ++ wsX50 ++ (vx_atS RX5 92 "java/lang/IndexOutOfBoundsException" ["java/lang/RuntimeException", "java/lang/Exception"]).filter goodWord)
def wsL_unitsOf : List Cond := .codeWith yL_unitsOf cL_unitsOf 5 (some .int) [(0, 10, 13, 13)] :: ([.classLink RL 13 "java/lang/IndexOutOfBoundsException", .methodLink RL 65 yX5_unitsOf, .instanceMethod yX5_unitsOf, .selects RX5 yX5_unitsOf yX5_unitsOf, .initialized RX5, .code yX5_unitsOf cX5_unitsOf 3 (some .int), .methodLink RX5 157 yX5_matchesWith, .instanceMethod yX5_matchesWith, .selects RX5 yX5_matchesWith yX5_matchesWith, .code yX5_matchesWith cX5_matchesWith 4 (some (.object "GainsReckoner$Matches")), .classLink RX5 88 "java/lang/IndexOutOfBoundsException", .initialized "java/lang/IndexOutOfBoundsException", .methodLink RX5 139 yX5_ledgerOf, .instanceMethod yX5_ledgerOf, .selects RX5 yX5_ledgerOf yX5_ledgerOf, .code yX5_ledgerOf cX5_ledgerOf 2 (some (.object "GainsReckoner$Ledger")), .fieldLink RX5 18 "GainsReckoner" "ledgers" "[LGainsReckoner$Ledger;"] ++ wsX20 ++ wsX10 ++ wsX50 ++ (vx_atS RX5 92 "java/lang/IndexOutOfBoundsException" ["java/lang/RuntimeException", "java/lang/Exception"]).filter goodWord)
def wsL_costOf : List Cond := .codeWith yL_costOf cL_costOf 5 (some .int) [(0, 10, 13, 13)] :: ([.classLink RL 13 "java/lang/IndexOutOfBoundsException", .methodLink RL 68 yX5_costOf, .instanceMethod yX5_costOf, .selects RX5 yX5_costOf yX5_costOf, .initialized RX5, .code yX5_costOf cX5_costOf 3 (some .int), .methodLink RX5 157 yX5_matchesWith, .instanceMethod yX5_matchesWith, .selects RX5 yX5_matchesWith yX5_matchesWith, .code yX5_matchesWith cX5_matchesWith 4 (some (.object "GainsReckoner$Matches")), .classLink RX5 88 "java/lang/IndexOutOfBoundsException", .initialized "java/lang/IndexOutOfBoundsException", .methodLink RX5 139 yX5_ledgerOf, .instanceMethod yX5_ledgerOf, .selects RX5 yX5_ledgerOf yX5_ledgerOf, .code yX5_ledgerOf cX5_ledgerOf 2 (some (.object "GainsReckoner$Ledger")), .fieldLink RX5 18 "GainsReckoner" "ledgers" "[LGainsReckoner$Ledger;"] ++ wsX20 ++ wsX10 ++ wsX50 ++ (vx_atS RX5 92 "java/lang/IndexOutOfBoundsException" ["java/lang/RuntimeException", "java/lang/Exception"]).filter goodWord)
def wsL_proceedsOf : List Cond := .codeWith yL_proceedsOf cL_proceedsOf 5 (some .int) [(0, 10, 13, 13)] :: ([.classLink RL 13 "java/lang/IndexOutOfBoundsException", .methodLink RL 71 yX5_proceedsOf, .instanceMethod yX5_proceedsOf, .selects RX5 yX5_proceedsOf yX5_proceedsOf, .initialized RX5, .code yX5_proceedsOf cX5_proceedsOf 3 (some .int), .methodLink RX5 157 yX5_matchesWith, .instanceMethod yX5_matchesWith, .selects RX5 yX5_matchesWith yX5_matchesWith, .code yX5_matchesWith cX5_matchesWith 4 (some (.object "GainsReckoner$Matches")), .classLink RX5 88 "java/lang/IndexOutOfBoundsException", .initialized "java/lang/IndexOutOfBoundsException", .methodLink RX5 139 yX5_ledgerOf, .instanceMethod yX5_ledgerOf, .selects RX5 yX5_ledgerOf yX5_ledgerOf, .code yX5_ledgerOf cX5_ledgerOf 2 (some (.object "GainsReckoner$Ledger")), .fieldLink RX5 18 "GainsReckoner" "ledgers" "[LGainsReckoner$Ledger;"] ++ wsX20 ++ wsX10 ++ wsX50 ++ (vx_atS RX5 92 "java/lang/IndexOutOfBoundsException" ["java/lang/RuntimeException", "java/lang/Exception"]).filter goodWord)
def wsL_gain_r1 : List Cond := [Cond.classLink RL 13 "java/lang/IndexOutOfBoundsException", Cond.methodLink RL 74 yX5_gain, Cond.instanceMethod yX5_gain, Cond.selects RX5 yX5_gain yX5_gain, Cond.initialized RX5, Cond.code yX5_gain cX5_gain 4 (some .int), Cond.methodLink RX5 139 yX5_ledgerOf, Cond.instanceMethod yX5_ledgerOf, Cond.selects RX5 yX5_ledgerOf yX5_ledgerOf, Cond.code yX5_ledgerOf cX5_ledgerOf 2 (some (.object "GainsReckoner$Ledger")), Cond.classLink RX5 88 "java/lang/IndexOutOfBoundsException", Cond.initialized "java/lang/IndexOutOfBoundsException", Cond.fieldLink RX5 18 "GainsReckoner" "ledgers" "[LGainsReckoner$Ledger;", Cond.methodLink RX5 111 yX5_checkYear, Cond.static yX5_checkYear, Cond.code yX5_checkYear cX5_checkYear 1 none, Cond.methodLink RX5 179 yX2_gainOfYear, Cond.instanceMethod yX2_gainOfYear, Cond.selects RX2 yX2_gainOfYear yX2_gainOfYear, Cond.initialized RX2, Cond.code yX2_gainOfYear cX2_gainOfYear 4 (some .int), Cond.fieldLink RX2 30 "GainsReckoner$Matches" "size" "I", Cond.fieldLink RX2 15 "GainsReckoner$Matches" "soldOn" "[I", Cond.fieldLink RX2 27 "GainsReckoner$Matches" "proceeds" "[I"]
def wsL_gain_r2 : List Cond := [Cond.fieldLink RX2 24 "GainsReckoner$Matches" "cost" "[I"]
def wsL_gain : List Cond := .codeWith yL_gain cL_gain 5 (some .int) [(0, 10, 13, 13)] :: ((wsL_gain_r1 ++ wsL_gain_r2) ++ wsX10 ++ wsX50 ++ wsX20 ++ (vx_atS RX5 92 "java/lang/IndexOutOfBoundsException" ["java/lang/RuntimeException", "java/lang/Exception"]).filter goodWord)
def wsL_net_r1 : List Cond := [Cond.classLink RL 13 "java/lang/IndexOutOfBoundsException", Cond.methodLink RL 77 yX5_net, Cond.instanceMethod yX5_net, Cond.selects RX5 yX5_net yX5_net, Cond.initialized RX5, Cond.code yX5_net cX5_net 2 (some .int), Cond.methodLink RX5 111 yX5_checkYear, Cond.static yX5_checkYear, Cond.code yX5_checkYear cX5_checkYear 1 none, Cond.classLink RX5 88 "java/lang/IndexOutOfBoundsException", Cond.initialized "java/lang/IndexOutOfBoundsException", Cond.methodLink RX5 182 yX5_netOfYear, Cond.instanceMethod yX5_netOfYear, Cond.selects RX5 yX5_netOfYear yX5_netOfYear, Cond.code yX5_netOfYear cX5_netOfYear 4 (some .int), Cond.fieldLink RX5 18 "GainsReckoner" "ledgers" "[LGainsReckoner$Ledger;", Cond.methodLink RX5 179 yX2_gainOfYear, Cond.instanceMethod yX2_gainOfYear, Cond.selects RX2 yX2_gainOfYear yX2_gainOfYear, Cond.initialized RX2, Cond.code yX2_gainOfYear cX2_gainOfYear 4 (some .int), Cond.fieldLink RX2 30 "GainsReckoner$Matches" "size" "I", Cond.fieldLink RX2 15 "GainsReckoner$Matches" "soldOn" "[I", Cond.fieldLink RX2 27 "GainsReckoner$Matches" "proceeds" "[I"]
def wsL_net_r2 : List Cond := [Cond.fieldLink RX2 24 "GainsReckoner$Matches" "cost" "[I"]
def wsL_net : List Cond := .codeWith yL_net cL_net 4 (some .int) [(0, 9, 12, 13)] :: ((wsL_net_r1 ++ wsL_net_r2) ++ wsX50 ++ wsX10 ++ wsX20 ++ (vx_atS RX5 92 "java/lang/IndexOutOfBoundsException" ["java/lang/RuntimeException", "java/lang/Exception"]).filter goodWord)
def wsL_carried_r1 : List Cond := [Cond.classLink RL 13 "java/lang/IndexOutOfBoundsException", Cond.methodLink RL 80 yX5_carried, Cond.instanceMethod yX5_carried, Cond.selects RX5 yX5_carried yX5_carried, Cond.initialized RX5, Cond.code yX5_carried cX5_carried 2 (some .int), Cond.methodLink RX5 111 yX5_checkYear, Cond.static yX5_checkYear, Cond.code yX5_checkYear cX5_checkYear 1 none, Cond.classLink RX5 88 "java/lang/IndexOutOfBoundsException", Cond.initialized "java/lang/IndexOutOfBoundsException", Cond.methodLink RX5 185 yX5_lossesOutOf, Cond.instanceMethod yX5_lossesOutOf, Cond.selects RX5 yX5_lossesOutOf yX5_lossesOutOf, Cond.code yX5_lossesOutOf cX5_lossesOutOf 5 (some .int), Cond.methodLink RX5 191 Lib.Math.min.name, Cond.static Lib.Math.min.name, Cond.initialized "java/lang/Math", Cond.code Lib.Math.min.name Lib.Math.min.code 2 (some .int), Cond.methodLink RX5 182 yX5_netOfYear, Cond.instanceMethod yX5_netOfYear, Cond.selects RX5 yX5_netOfYear yX5_netOfYear, Cond.code yX5_netOfYear cX5_netOfYear 4 (some .int), Cond.fieldLink RX5 18 "GainsReckoner" "ledgers" "[LGainsReckoner$Ledger;"]
def wsL_carried_r2 : List Cond := [Cond.methodLink RX5 179 yX2_gainOfYear, Cond.instanceMethod yX2_gainOfYear, Cond.selects RX2 yX2_gainOfYear yX2_gainOfYear, Cond.initialized RX2, Cond.code yX2_gainOfYear cX2_gainOfYear 4 (some .int), Cond.fieldLink RX2 30 "GainsReckoner$Matches" "size" "I", Cond.fieldLink RX2 15 "GainsReckoner$Matches" "soldOn" "[I", Cond.fieldLink RX2 27 "GainsReckoner$Matches" "proceeds" "[I", Cond.fieldLink RX2 24 "GainsReckoner$Matches" "cost" "[I", Cond.methodLink RX5 188 yX5_aboveAllowance, Cond.instanceMethod yX5_aboveAllowance, Cond.selects RX5 yX5_aboveAllowance yX5_aboveAllowance, Cond.code yX5_aboveAllowance cX5_aboveAllowance 2 (some .int), Cond.fieldLink RX5 25 "GainsReckoner" "allowances" "[I", Cond.methodLink RX5 197 Lib.Math.max.name, Cond.static Lib.Math.max.name, Cond.code Lib.Math.max.name Lib.Math.max.code 2 (some .int)]
def wsL_carried : List Cond := .codeWith yL_carried cL_carried 4 (some .int) [(0, 9, 12, 13)] :: ((wsL_carried_r1 ++ wsL_carried_r2) ++ wsX50 ++ wsX10 ++ wsX20 ++ (vx_atS RX5 92 "java/lang/IndexOutOfBoundsException" ["java/lang/RuntimeException", "java/lang/Exception"]).filter goodWord)
def wsL_taxable_r1 : List Cond := [Cond.classLink RL 13 "java/lang/IndexOutOfBoundsException", Cond.methodLink RL 83 yX5_taxable, Cond.instanceMethod yX5_taxable, Cond.selects RX5 yX5_taxable yX5_taxable, Cond.initialized RX5, Cond.code yX5_taxable cX5_taxable 3 (some .int), Cond.methodLink RX5 191 Lib.Math.min.name, Cond.static Lib.Math.min.name, Cond.initialized "java/lang/Math", Cond.code Lib.Math.min.name Lib.Math.min.code 2 (some .int), Cond.methodLink RX5 111 yX5_checkYear, Cond.static yX5_checkYear, Cond.code yX5_checkYear cX5_checkYear 1 none, Cond.classLink RX5 88 "java/lang/IndexOutOfBoundsException", Cond.initialized "java/lang/IndexOutOfBoundsException", Cond.methodLink RX5 188 yX5_aboveAllowance, Cond.instanceMethod yX5_aboveAllowance, Cond.selects RX5 yX5_aboveAllowance yX5_aboveAllowance, Cond.code yX5_aboveAllowance cX5_aboveAllowance 2 (some .int), Cond.fieldLink RX5 25 "GainsReckoner" "allowances" "[I", Cond.methodLink RX5 197 Lib.Math.max.name, Cond.static Lib.Math.max.name, Cond.code Lib.Math.max.name Lib.Math.max.code 2 (some .int), Cond.methodLink RX5 182 yX5_netOfYear]
def wsL_taxable_r2 : List Cond := [Cond.instanceMethod yX5_netOfYear, Cond.selects RX5 yX5_netOfYear yX5_netOfYear, Cond.code yX5_netOfYear cX5_netOfYear 4 (some .int), Cond.fieldLink RX5 18 "GainsReckoner" "ledgers" "[LGainsReckoner$Ledger;", Cond.methodLink RX5 179 yX2_gainOfYear, Cond.instanceMethod yX2_gainOfYear, Cond.selects RX2 yX2_gainOfYear yX2_gainOfYear, Cond.initialized RX2, Cond.code yX2_gainOfYear cX2_gainOfYear 4 (some .int), Cond.fieldLink RX2 30 "GainsReckoner$Matches" "size" "I", Cond.fieldLink RX2 15 "GainsReckoner$Matches" "soldOn" "[I", Cond.fieldLink RX2 27 "GainsReckoner$Matches" "proceeds" "[I", Cond.fieldLink RX2 24 "GainsReckoner$Matches" "cost" "[I", Cond.methodLink RX5 185 yX5_lossesOutOf, Cond.instanceMethod yX5_lossesOutOf, Cond.selects RX5 yX5_lossesOutOf yX5_lossesOutOf, Cond.code yX5_lossesOutOf cX5_lossesOutOf 5 (some .int)]
def wsL_taxable : List Cond := .codeWith yL_taxable cL_taxable 4 (some .int) [(0, 9, 12, 13)] :: ((wsL_taxable_r1 ++ wsL_taxable_r2) ++ wsX50 ++ wsX10 ++ wsX20 ++ (vx_atS RX5 92 "java/lang/IndexOutOfBoundsException" ["java/lang/RuntimeException", "java/lang/Exception"]).filter goodWord)
def wsL_law0_r1 : List Cond := [Cond.classLink RL 8 RX5, Cond.instantiable RX5 4, Cond.initialized RX5, Cond.classLink RL 87 RX6, Cond.instantiable RX6 30, Cond.initialized RX6, Cond.arrayClass .long, Cond.methodLink RL 86 yX5_init, Cond.instanceMethod yX5_init, Cond.code yX5_init cX5_init 2 none, Cond.methodLink RX5 1 objectInit, Cond.instanceMethod objectInit, Cond.code objectInit ⟨#[0xb1]⟩ 1 none, Cond.classLink RX5 7 RX0, Cond.instantiable RX0 7, Cond.initialized RX0, Cond.fieldLink RX5 10 "GainsReckoner" "journal" "LGainsReckoner$Journal;", Cond.classLink RX5 16 RX1, Cond.fieldLink RX5 18 "GainsReckoner" "ledgers" "[LGainsReckoner$Ledger;", Cond.instantiable RX1 4, Cond.initialized RX1, Cond.arrayClass .int, Cond.fieldLink RX5 25 "GainsReckoner" "allowances" "[I", Cond.fieldLink RX5 29 "GainsReckoner" "window" "I"]
def wsL_law0_r2 : List Cond := [Cond.instanceMethod yX0_init, Cond.code yX0_init cX0_init 1 none, Cond.methodLink RX0 3 objectInit, Cond.arrayClass .boolean, Cond.fieldLink RX0 9 "GainsReckoner$Journal" "sale" "[Z", Cond.fieldLink RX0 15 "GainsReckoner$Journal" "cancelled" "[Z", Cond.fieldLink RX0 18 "GainsReckoner$Journal" "share" "[I", Cond.fieldLink RX0 22 "GainsReckoner$Journal" "day" "[I", Cond.fieldLink RX0 25 "GainsReckoner$Journal" "count" "[I", Cond.fieldLink RX0 28 "GainsReckoner$Journal" "money" "[I", Cond.fieldLink RX0 31 "GainsReckoner$Journal" "size" "I", Cond.methodLink RX5 22 yX1_init, Cond.instanceMethod yX1_init, Cond.code yX1_init cX1_init 2 none, Cond.methodLink RX1 3 objectInit, Cond.classLink RX1 9 RX4, Cond.instantiable RX4 3, Cond.initialized RX4, Cond.fieldLink RX1 12 "GainsReckoner$Ledger" "splits" "LGainsReckoner$Splits;", Cond.classLink RX1 18 RX3, Cond.instantiable RX3 10, Cond.initialized RX3, Cond.fieldLink RX1 21 "GainsReckoner$Ledger" "sheet" "LGainsReckoner$Sheet;", Cond.classLink RX1 25 RX2]
def wsL_law0_r3 : List Cond := [Cond.instantiable RX2 7, Cond.initialized RX2, Cond.fieldLink RX1 28 "GainsReckoner$Ledger" "matched" "LGainsReckoner$Matches;", Cond.fieldLink RX1 32 "GainsReckoner$Ledger" "share" "I", Cond.instanceMethod yX4_init, Cond.code yX4_init cX4_init 1 none, Cond.methodLink RX4 3 objectInit, Cond.fieldLink RX4 9 "GainsReckoner$Splits" "day" "[I", Cond.fieldLink RX4 15 "GainsReckoner$Splits" "factor" "[I", Cond.fieldLink RX4 18 "GainsReckoner$Splits" "size" "I", Cond.instanceMethod yX3_init, Cond.code yX3_init cX3_init 1 none, Cond.methodLink RX3 3 objectInit, Cond.fieldLink RX3 9 "GainsReckoner$Sheet" "day" "[I", Cond.fieldLink RX3 15 "GainsReckoner$Sheet" "bought" "[I", Cond.fieldLink RX3 18 "GainsReckoner$Sheet" "boughtGone" "[I", Cond.fieldLink RX3 21 "GainsReckoner$Sheet" "cost" "[I", Cond.fieldLink RX3 24 "GainsReckoner$Sheet" "sold" "[I", Cond.fieldLink RX3 27 "GainsReckoner$Sheet" "soldGone" "[I", Cond.fieldLink RX3 30 "GainsReckoner$Sheet" "proceeds" "[I", Cond.fieldLink RX3 33 "GainsReckoner$Sheet" "pooledUnits" "[I", Cond.fieldLink RX3 36 "GainsReckoner$Sheet" "pooledCost" "[I", Cond.fieldLink RX3 39 "GainsReckoner$Sheet" "size" "I", Cond.instanceMethod yX2_init]
def wsL_law0_r4 : List Cond := [Cond.code yX2_init cX2_init 1 none, Cond.methodLink RX2 3 objectInit, Cond.fieldLink RX2 9 "GainsReckoner$Matches" "kind" "[I", Cond.fieldLink RX2 15 "GainsReckoner$Matches" "soldOn" "[I", Cond.fieldLink RX2 18 "GainsReckoner$Matches" "boughtOn" "[I", Cond.fieldLink RX2 21 "GainsReckoner$Matches" "units" "[I", Cond.fieldLink RX2 24 "GainsReckoner$Matches" "cost" "[I", Cond.fieldLink RX2 27 "GainsReckoner$Matches" "proceeds" "[I", Cond.fieldLink RX2 30 "GainsReckoner$Matches" "size" "I", Cond.methodLink RL 89 yX6_init, Cond.instanceMethod yX6_init, Cond.code yX6_init cX6_init 1 none, Cond.methodLink RX6 1 objectInit, Cond.fieldLink RX6 7 "GainsReckonerModel" "share" "[I", Cond.fieldLink RX6 13 "GainsReckonerModel" "day" "[I", Cond.fieldLink RX6 16 "GainsReckonerModel" "count" "[I", Cond.fieldLink RX6 19 "GainsReckonerModel" "money" "[I", Cond.fieldLink RX6 22 "GainsReckonerModel" "sale" "[Z", Cond.fieldLink RX6 26 "GainsReckonerModel" "gone" "[Z", Cond.fieldLink RX6 29 "GainsReckonerModel" "splits" "[I", Cond.fieldLink RX6 32 "GainsReckonerModel" "splitDay" "[I", Cond.fieldLink RX6 35 "GainsReckonerModel" "factor" "[I", Cond.fieldLink RX6 38 "GainsReckonerModel" "allowance" "[I", Cond.fieldLink RX6 41 "GainsReckonerModel" "window" "I"]
def wsL_law0_r5 : List Cond := [Cond.fieldLink RX6 45 "GainsReckonerModel" "date" "[I", Cond.fieldLink RX6 48 "GainsReckonerModel" "bought" "[J", Cond.fieldLink RX6 52 "GainsReckonerModel" "cost" "[J", Cond.fieldLink RX6 55 "GainsReckonerModel" "sold" "[J", Cond.fieldLink RX6 58 "GainsReckonerModel" "proceeds" "[J", Cond.fieldLink RX6 61 "GainsReckonerModel" "buyLeft" "[J", Cond.fieldLink RX6 64 "GainsReckonerModel" "saleLeft" "[J", Cond.fieldLink RX6 67 "GainsReckonerModel" "units" "[J", Cond.fieldLink RX6 70 "GainsReckonerModel" "value" "[J", Cond.fieldLink RX6 73 "GainsReckonerModel" "by" "[I", Cond.fieldLink RX6 76 "GainsReckonerModel" "from" "[I", Cond.fieldLink RX6 79 "GainsReckonerModel" "kind" "[I", Cond.fieldLink RX6 82 "GainsReckonerModel" "many" "[J", Cond.fieldLink RX6 85 "GainsReckonerModel" "matchCost" "[J", Cond.fieldLink RX6 88 "GainsReckonerModel" "matchProceeds" "[J", Cond.methodLink RL 90 yL_buy, Cond.static yL_buy, Cond.initialized RL, Cond.codeWith yL_buy cL_buy 7 (some .int) [(0, 14, 17, 13), (0, 14, 21, 15), (0, 14, 25, 17)], Cond.classLink RL 13 "java/lang/IndexOutOfBoundsException", Cond.classLink RL 15 "java/lang/IllegalArgumentException", Cond.classLink RL 17 "java/lang/IllegalStateException", Cond.methodLink RL 7 yX5_buy, Cond.instanceMethod yX5_buy]
def wsL_law0_r6 : List Cond := [Cond.selects RX5 yX5_buy yX5_buy, Cond.code yX5_buy cX5_buy 7 (some .int), Cond.methodLink RX5 33 yX5_ledgerAt, Cond.instanceMethod yX5_ledgerAt, Cond.selects RX5 yX5_ledgerAt yX5_ledgerAt, Cond.code yX5_ledgerAt cX5_ledgerAt 4 (some (.object "GainsReckoner$Ledger")), Cond.classLink RX5 88 "java/lang/IndexOutOfBoundsException", Cond.initialized "java/lang/IndexOutOfBoundsException", Cond.methodLink RX5 139 yX5_ledgerOf, Cond.instanceMethod yX5_ledgerOf, Cond.selects RX5 yX5_ledgerOf yX5_ledgerOf, Cond.code yX5_ledgerOf cX5_ledgerOf 2 (some (.object "GainsReckoner$Ledger")), Cond.methodLink RX5 37 yX5_checkTrade, Cond.static yX5_checkTrade, Cond.code yX5_checkTrade cX5_checkTrade 2 none, Cond.classLink RX5 56 "java/lang/IllegalArgumentException", Cond.initialized "java/lang/IllegalArgumentException", Cond.methodLink RX5 114 yX5_checkMoney, Cond.static yX5_checkMoney, Cond.code yX5_checkMoney cX5_checkMoney 1 none, Cond.constant RX5 213 (1000000), Cond.methodLink RX5 41 yX5_checkRoomForTrade, Cond.instanceMethod yX5_checkRoomForTrade, Cond.selects RX5 yX5_checkRoomForTrade yX5_checkRoomForTrade]
def wsL_law0_r7 : List Cond := [Cond.code yX5_checkRoomForTrade cX5_checkRoomForTrade 1 none, Cond.classLink RX5 77 "java/lang/IllegalStateException", Cond.initialized "java/lang/IllegalStateException", Cond.methodLink RX5 206 yX0_isFull, Cond.instanceMethod yX0_isFull, Cond.selects RX0 yX0_isFull yX0_isFull, Cond.code yX0_isFull cX0_isFull 1 (some .boolean), Cond.methodLink RX5 44 yX0_enter, Cond.instanceMethod yX0_enter, Cond.selects RX0 yX0_enter yX0_enter, Cond.code yX0_enter cX0_enter 7 (some .int), Cond.methodLink RX0 35 yX0_isFull, Cond.methodLink RX5 48 yX1_reckon, Cond.instanceMethod yX1_reckon, Cond.selects RX1 yX1_reckon yX1_reckon, Cond.code yX1_reckon cX1_reckon 4 none, Cond.methodLink RX1 36 yX3_fill, Cond.instanceMethod yX3_fill, Cond.selects RX3 yX3_fill yX3_fill, Cond.code yX3_fill cX3_fill 6 none, Cond.methodLink RX3 43 yX3_openRows, Cond.instanceMethod yX3_openRows, Cond.selects RX3 yX3_openRows yX3_openRows, Cond.code yX3_openRows cX3_openRows 4 none]
def wsL_law0_r8 : List Cond := [Cond.methodLink RX3 50 yX0_counts, Cond.instanceMethod yX0_counts, Cond.selects RX0 yX0_counts yX0_counts, Cond.code yX0_counts cX0_counts 3 (some .boolean), Cond.methodLink RX3 71 yX3_openRow, Cond.instanceMethod yX3_openRow, Cond.selects RX3 yX3_openRow yX3_openRow, Cond.code yX3_openRow cX3_openRow 4 none, Cond.methodLink RX3 75 yX3_lastRowUpTo, Cond.instanceMethod yX3_lastRowUpTo, Cond.selects RX3 yX3_lastRowUpTo yX3_lastRowUpTo, Cond.code yX3_lastRowUpTo cX3_lastRowUpTo 4 (some .int), Cond.methodLink RX3 58 yX4_factorBetween, Cond.instanceMethod yX4_factorBetween, Cond.selects RX4 yX4_factorBetween yX4_factorBetween, Cond.code yX4_factorBetween cX4_factorBetween 5 (some .int), Cond.methodLink RX3 64 yX3_addTrade, Cond.instanceMethod yX3_addTrade, Cond.selects RX3 yX3_addTrade yX3_addTrade, Cond.code yX3_addTrade cX3_addTrade 5 none, Cond.methodLink RX3 68 yX3_setSameDaysAside, Cond.instanceMethod yX3_setSameDaysAside, Cond.selects RX3 yX3_setSameDaysAside yX3_setSameDaysAside, Cond.code yX3_setSameDaysAside cX3_setSameDaysAside 3 none]
def wsL_law0_r9 : List Cond := [Cond.methodLink RX3 86 Lib.Math.min.name, Cond.static Lib.Math.min.name, Cond.initialized "java/lang/Math", Cond.code Lib.Math.min.name Lib.Math.min.code 2 (some .int), Cond.methodLink RX1 44 yX1_matchSameDay, Cond.instanceMethod yX1_matchSameDay, Cond.selects RX1 yX1_matchSameDay yX1_matchSameDay, Cond.code yX1_matchSameDay cX1_matchSameDay 5 none, Cond.methodLink RX1 83 Lib.Math.min.name, Cond.static yX5_part, Cond.code yX5_part cX5_part 4 (some .int), Cond.methodLink RX1 99 yX2_add, Cond.instanceMethod yX2_add, Cond.selects RX2 yX2_add yX2_add, Cond.code yX2_add cX2_add 7 none, Cond.methodLink RX1 48 yX1_matchLaterDays, Cond.instanceMethod yX1_matchLaterDays, Cond.selects RX1 yX1_matchLaterDays yX1_matchLaterDays, Cond.code yX1_matchLaterDays cX1_matchLaterDays 9 none, Cond.methodLink RX1 109 yX1_takeBought, Cond.instanceMethod yX1_takeBought, Cond.selects RX1 yX1_takeBought yX1_takeBought, Cond.code yX1_takeBought cX1_takeBought 4 (some .int), Cond.methodLink RX1 112 yX1_takeSold]
def wsL_law0_r10 : List Cond := [Cond.instanceMethod yX1_takeSold, Cond.selects RX1 yX1_takeSold yX1_takeSold, Cond.code yX1_takeSold cX1_takeSold 4 (some .int), Cond.methodLink RX1 52 yX1_pool, Cond.instanceMethod yX1_pool, Cond.selects RX1 yX1_pool yX1_pool, Cond.code yX1_pool cX1_pool 7 none, Cond.methodLink RL 95 yX6_buy, Cond.instanceMethod yX6_buy, Cond.selects RX6 yX6_buy yX6_buy, Cond.code yX6_buy cX6_buy 5 (some .int), Cond.methodLink RX6 120 yX6_enters, Cond.instanceMethod yX6_enters, Cond.selects RX6 yX6_enters yX6_enters, Cond.code yX6_enters cX6_enters 6 (some .int), Cond.constant RX6 116 (1000000), Cond.fieldLink RX6 91 "GainsReckonerModel" "thrown" "I", Cond.fieldLink RX6 98 "GainsReckonerModel" "trades" "I", Cond.methodLink RX6 109 yX6_isShare, Cond.static yX6_isShare, Cond.code yX6_isShare cX6_isShare 1 (some .boolean), Cond.methodLink RX6 94 yX6_isIn, Cond.static yX6_isIn, Cond.code yX6_isIn cX6_isIn 3 (some .boolean)]
def wsL_law0_r11 : List Cond := [Cond.methodLink RX6 113 yX6_isDay, Cond.static yX6_isDay, Cond.code yX6_isDay cX6_isDay 1 (some .boolean), Cond.methodLink RX6 117 yX6_isBelow, Cond.instanceMethod yX6_isBelow, Cond.selects RX6 yX6_isBelow yX6_isBelow, Cond.code yX6_isBelow cX6_isBelow 4 (some .boolean), Cond.methodLink RX6 105 yX6_held, Cond.instanceMethod yX6_held, Cond.selects RX6 yX6_held yX6_held, Cond.code yX6_held cX6_held 8 (some .long), Cond.methodLink RX6 101 yX6_later, Cond.instanceMethod yX6_later, Cond.selects RX6 yX6_later yX6_later, Cond.code yX6_later cX6_later 5 (some .int), Cond.methodLink RL 96 yX6_thrown, Cond.instanceMethod yX6_thrown, Cond.selects RX6 yX6_thrown yX6_thrown, Cond.code yX6_thrown cX6_thrown 1 (some .int), Cond.methodLink RL 100 yL_sell, Cond.static yL_sell, Cond.codeWith yL_sell cL_sell 7 (some .int) [(0, 14, 17, 13), (0, 14, 21, 15), (0, 14, 25, 17)], Cond.methodLink RL 19 yX5_sell, Cond.instanceMethod yX5_sell]
def wsL_law0_r12 : List Cond := [Cond.selects RX5 yX5_sell yX5_sell, Cond.code yX5_sell cX5_sell 7 (some .int), Cond.methodLink RX5 52 yX5_checkCanSpare, Cond.static yX5_checkCanSpare, Cond.code yX5_checkCanSpare cX5_checkCanSpare 4 none, Cond.methodLink RX5 216 yX4_factorBetween, Cond.methodLink RX5 219 yX3_leastUnitsFrom, Cond.instanceMethod yX3_leastUnitsFrom, Cond.selects RX3 yX3_leastUnitsFrom yX3_leastUnitsFrom, Cond.code yX3_leastUnitsFrom cX3_leastUnitsFrom 5 (some .int), Cond.methodLink RL 102 yX6_sell, Cond.instanceMethod yX6_sell, Cond.selects RX6 yX6_sell yX6_sell, Cond.code yX6_sell cX6_sell 5 (some .int), Cond.methodLink RL 103 yL_split, Cond.static yL_split, Cond.codeWith yL_split cL_split 6 (some .int) [(0, 12, 15, 13), (0, 12, 19, 15), (0, 12, 23, 17)], Cond.methodLink RL 22 yX5_split, Cond.instanceMethod yX5_split, Cond.selects RX5 yX5_split yX5_split, Cond.code yX5_split cX5_split 5 (some .int), Cond.methodLink RX5 67 yX4_isFull, Cond.instanceMethod yX4_isFull, Cond.selects RX4 yX4_isFull yX4_isFull]
def wsL_law0_r13 : List Cond := [Cond.code yX4_isFull cX4_isFull 1 (some .boolean), Cond.methodLink RX5 73 yX4_hasDay, Cond.instanceMethod yX4_hasDay, Cond.selects RX4 yX4_hasDay yX4_hasDay, Cond.code yX4_hasDay cX4_hasDay 3 (some .boolean), Cond.methodLink RX5 82 yX4_enter, Cond.instanceMethod yX4_enter, Cond.selects RX4 yX4_enter yX4_enter, Cond.code yX4_enter cX4_enter 3 none, Cond.methodLink RX4 22 yX4_isFull, Cond.methodLink RL 106 yX6_split, Cond.instanceMethod yX6_split, Cond.selects RX6 yX6_split yX6_split, Cond.code yX6_split cX6_split 6 (some .int), Cond.methodLink RL 107 yL_cancel, Cond.static yL_cancel, Cond.codeWith yL_cancel cL_cancel 3 (some .int) [(0, 5, 8, 13), (0, 5, 11, 17)], Cond.methodLink RL 26 yX5_cancel, Cond.instanceMethod yX5_cancel, Cond.selects RX5 yX5_cancel yX5_cancel, Cond.code yX5_cancel cX5_cancel 3 none, Cond.methodLink RL 110 yX6_cancel, Cond.instanceMethod yX6_cancel, Cond.selects RX6 yX6_cancel yX6_cancel]
def wsL_law0_r14 : List Cond := [Cond.code yX6_cancel cX6_cancel 2 none, Cond.methodLink RL 111 yL_setAllowance, Cond.static yL_setAllowance, Cond.codeWith yL_setAllowance cL_setAllowance 5 (some .int) [(0, 10, 13, 13), (0, 10, 17, 15)], Cond.methodLink RL 30 yX5_setAllowance, Cond.instanceMethod yX5_setAllowance, Cond.selects RX5 yX5_setAllowance yX5_setAllowance, Cond.code yX5_setAllowance cX5_setAllowance 4 (some .int), Cond.methodLink RX5 111 yX5_checkYear, Cond.static yX5_checkYear, Cond.code yX5_checkYear cX5_checkYear 1 none, Cond.methodLink RL 114 yX6_setAllowance, Cond.instanceMethod yX6_setAllowance, Cond.selects RX6 yX6_setAllowance yX6_setAllowance, Cond.code yX6_setAllowance cX6_setAllowance 4 (some .int), Cond.methodLink RL 115 yL_setWindow, Cond.static yL_setWindow, Cond.codeWith yL_setWindow cL_setWindow 4 (some .int) [(0, 9, 12, 15)], Cond.methodLink RL 34 yX5_setWindow, Cond.instanceMethod yX5_setWindow, Cond.selects RX5 yX5_setWindow yX5_setWindow, Cond.code yX5_setWindow cX5_setWindow 4 (some .int), Cond.methodLink RL 118 yX6_setWindow, Cond.instanceMethod yX6_setWindow]
def wsL_law0_r15 : List Cond := [Cond.selects RX6 yX6_setWindow yX6_setWindow, Cond.code yX6_setWindow cX6_setWindow 3 (some .int), Cond.methodLink RL 119 yX5_trades, Cond.instanceMethod yX5_trades, Cond.selects RX5 yX5_trades yX5_trades, Cond.code yX5_trades cX5_trades 1 (some .int), Cond.methodLink RL 122 yX6_trades, Cond.instanceMethod yX6_trades, Cond.selects RX6 yX6_trades yX6_trades, Cond.code yX6_trades cX6_trades 1 (some .int), Cond.methodLink RL 123 yL_holding, Cond.static yL_holding, Cond.codeWith yL_holding cL_holding 5 (some .int) [(0, 10, 13, 13)], Cond.methodLink RL 38 yX5_holding, Cond.instanceMethod yX5_holding, Cond.selects RX5 yX5_holding yX5_holding, Cond.code yX5_holding cX5_holding 3 (some .int), Cond.methodLink RX5 119 yX1_heldShares, Cond.instanceMethod yX1_heldShares, Cond.selects RX1 yX1_heldShares yX1_heldShares, Cond.code yX1_heldShares cX1_heldShares 7 (some .int), Cond.methodLink RX1 62 yX0_counts, Cond.methodLink RX1 69 yX4_factorBetween, Cond.methodLink RL 125 yX6_holding]
def wsL_law0_r16 : List Cond := [Cond.instanceMethod yX6_holding, Cond.selects RX6 yX6_holding yX6_holding, Cond.code yX6_holding cX6_holding 3 (some .int), Cond.methodLink RX6 145 yX6_asks, Cond.instanceMethod yX6_asks, Cond.selects RX6 yX6_asks yX6_asks, Cond.code yX6_asks cX6_asks 3 (some .boolean), Cond.methodLink RL 126 yL_poolUnits, Cond.static yL_poolUnits, Cond.codeWith yL_poolUnits cL_poolUnits 5 (some .int) [(0, 10, 13, 13)], Cond.methodLink RL 41 yX5_poolUnits, Cond.instanceMethod yX5_poolUnits, Cond.selects RX5 yX5_poolUnits yX5_poolUnits, Cond.code yX5_poolUnits cX5_poolUnits 5 (some .int), Cond.methodLink RX5 127 yX3_lastRowUpTo, Cond.methodLink RL 128 yX6_poolUnits, Cond.instanceMethod yX6_poolUnits, Cond.selects RX6 yX6_poolUnits yX6_poolUnits, Cond.code yX6_poolUnits cX6_poolUnits 4 (some .int), Cond.methodLink RX6 149 yX6_reckons, Cond.instanceMethod yX6_reckons, Cond.selects RX6 yX6_reckons yX6_reckons, Cond.code yX6_reckons cX6_reckons 4 none, Cond.fieldLink RX6 127 "GainsReckonerModel" "made" "I"]
def wsL_law0_r17 : List Cond := [Cond.fieldLink RX6 124 "GainsReckonerModel" "days" "I", Cond.methodLink RX6 134 yX6_laysDays, Cond.instanceMethod yX6_laysDays, Cond.selects RX6 yX6_laysDays yX6_laysDays, Cond.code yX6_laysDays cX6_laysDays 7 none, Cond.methodLink RX6 138 yX6_pairs, Cond.instanceMethod yX6_pairs, Cond.selects RX6 yX6_pairs yX6_pairs, Cond.code yX6_pairs cX6_pairs 6 none, Cond.methodLink RX6 130 yX6_part, Cond.static yX6_part, Cond.code yX6_part cX6_part 8 (some .long), Cond.methodLink RX6 142 yX6_pools, Cond.instanceMethod yX6_pools, Cond.selects RX6 yX6_pools yX6_pools, Cond.code yX6_pools cX6_pools 8 none, Cond.methodLink RX6 152 yX6_placeOf, Cond.instanceMethod yX6_placeOf, Cond.selects RX6 yX6_placeOf yX6_placeOf, Cond.code yX6_placeOf cX6_placeOf 4 (some .int), Cond.methodLink RL 129 yL_poolCost, Cond.static yL_poolCost, Cond.codeWith yL_poolCost cL_poolCost 5 (some .int) [(0, 10, 13, 13)], Cond.methodLink RL 44 yX5_poolCost]
def wsL_law0_r18 : List Cond := [Cond.instanceMethod yX5_poolCost, Cond.selects RX5 yX5_poolCost yX5_poolCost, Cond.code yX5_poolCost cX5_poolCost 5 (some .int), Cond.methodLink RL 131 yX6_poolCost, Cond.instanceMethod yX6_poolCost, Cond.selects RX6 yX6_poolCost yX6_poolCost, Cond.code yX6_poolCost cX6_poolCost 4 (some .int), Cond.methodLink RL 132 yL_costIn, Cond.static yL_costIn, Cond.codeWith yL_costIn cL_costIn 4 (some .int) [(0, 9, 12, 13)], Cond.methodLink RL 47 yX5_costIn, Cond.instanceMethod yX5_costIn, Cond.selects RX5 yX5_costIn yX5_costIn, Cond.code yX5_costIn cX5_costIn 2 (some .int), Cond.methodLink RX5 143 yX3_costOfBuys, Cond.instanceMethod yX3_costOfBuys, Cond.selects RX3 yX3_costOfBuys yX3_costOfBuys, Cond.code yX3_costOfBuys cX3_costOfBuys 3 (some .int), Cond.methodLink RL 134 yX6_costIn, Cond.instanceMethod yX6_costIn, Cond.selects RX6 yX6_costIn yX6_costIn, Cond.code yX6_costIn cX6_costIn 4 (some .int), Cond.methodLink RL 135 yL_costMatched, Cond.static yL_costMatched]
def wsL_law0_r19 : List Cond := [Cond.codeWith yL_costMatched cL_costMatched 4 (some .int) [(0, 9, 12, 13)], Cond.methodLink RL 50 yX5_costMatched, Cond.instanceMethod yX5_costMatched, Cond.selects RX5 yX5_costMatched yX5_costMatched, Cond.code yX5_costMatched cX5_costMatched 2 (some .int), Cond.methodLink RX5 151 yX2_costOfAll, Cond.instanceMethod yX2_costOfAll, Cond.selects RX2 yX2_costOfAll yX2_costOfAll, Cond.code yX2_costOfAll cX2_costOfAll 3 (some .int), Cond.methodLink RL 137 yX6_costMatched, Cond.instanceMethod yX6_costMatched, Cond.selects RX6 yX6_costMatched yX6_costMatched, Cond.code yX6_costMatched cX6_costMatched 5 (some .int), Cond.methodLink RL 138 yL_matches, Cond.static yL_matches, Cond.codeWith yL_matches cL_matches 4 (some .int) [(0, 9, 12, 13)], Cond.methodLink RL 53 yX5_matches, Cond.instanceMethod yX5_matches, Cond.selects RX5 yX5_matches yX5_matches, Cond.code yX5_matches cX5_matches 2 (some .int), Cond.methodLink RL 140 yX6_matches, Cond.instanceMethod yX6_matches, Cond.selects RX6 yX6_matches yX6_matches, Cond.code yX6_matches cX6_matches 2 (some .int)]
def wsL_law0_r20 : List Cond := [Cond.methodLink RL 141 yL_kindOf, Cond.static yL_kindOf, Cond.codeWith yL_kindOf cL_kindOf 5 (some .int) [(0, 10, 13, 13)], Cond.methodLink RL 56 yX5_kindOf, Cond.instanceMethod yX5_kindOf, Cond.selects RX5 yX5_kindOf yX5_kindOf, Cond.code yX5_kindOf cX5_kindOf 3 (some .int), Cond.methodLink RX5 157 yX5_matchesWith, Cond.instanceMethod yX5_matchesWith, Cond.selects RX5 yX5_matchesWith yX5_matchesWith, Cond.code yX5_matchesWith cX5_matchesWith 4 (some (.object "GainsReckoner$Matches")), Cond.methodLink RL 143 yX6_kindOf, Cond.instanceMethod yX6_kindOf, Cond.selects RX6 yX6_kindOf yX6_kindOf, Cond.code yX6_kindOf cX6_kindOf 4 (some .int), Cond.methodLink RX6 159 yX6_found, Cond.instanceMethod yX6_found, Cond.selects RX6 yX6_found yX6_found, Cond.code yX6_found cX6_found 5 (some .int), Cond.methodLink RX6 156 yX6_ahead, Cond.instanceMethod yX6_ahead, Cond.selects RX6 yX6_ahead yX6_ahead, Cond.code yX6_ahead cX6_ahead 4 (some .int), Cond.methodLink RL 144 yL_saleDay]
def wsL_law0_r21 : List Cond := [Cond.static yL_saleDay, Cond.codeWith yL_saleDay cL_saleDay 5 (some .int) [(0, 10, 13, 13)], Cond.methodLink RL 59 yX5_saleDay, Cond.instanceMethod yX5_saleDay, Cond.selects RX5 yX5_saleDay yX5_saleDay, Cond.code yX5_saleDay cX5_saleDay 3 (some .int), Cond.methodLink RL 146 yX6_saleDay, Cond.instanceMethod yX6_saleDay, Cond.selects RX6 yX6_saleDay yX6_saleDay, Cond.code yX6_saleDay cX6_saleDay 4 (some .int), Cond.methodLink RL 147 yL_buyDay, Cond.static yL_buyDay, Cond.codeWith yL_buyDay cL_buyDay 5 (some .int) [(0, 10, 13, 13)], Cond.methodLink RL 62 yX5_buyDay, Cond.instanceMethod yX5_buyDay, Cond.selects RX5 yX5_buyDay yX5_buyDay, Cond.code yX5_buyDay cX5_buyDay 3 (some .int), Cond.methodLink RL 149 yX6_buyDay, Cond.instanceMethod yX6_buyDay, Cond.selects RX6 yX6_buyDay yX6_buyDay, Cond.code yX6_buyDay cX6_buyDay 4 (some .int), Cond.methodLink RL 150 yL_unitsOf, Cond.static yL_unitsOf, Cond.codeWith yL_unitsOf cL_unitsOf 5 (some .int) [(0, 10, 13, 13)]]
def wsL_law0_r22 : List Cond := [Cond.methodLink RL 65 yX5_unitsOf, Cond.instanceMethod yX5_unitsOf, Cond.selects RX5 yX5_unitsOf yX5_unitsOf, Cond.code yX5_unitsOf cX5_unitsOf 3 (some .int), Cond.methodLink RL 152 yX6_unitsOf, Cond.instanceMethod yX6_unitsOf, Cond.selects RX6 yX6_unitsOf yX6_unitsOf, Cond.code yX6_unitsOf cX6_unitsOf 4 (some .int), Cond.methodLink RL 153 yL_costOf, Cond.static yL_costOf, Cond.codeWith yL_costOf cL_costOf 5 (some .int) [(0, 10, 13, 13)], Cond.methodLink RL 68 yX5_costOf, Cond.instanceMethod yX5_costOf, Cond.selects RX5 yX5_costOf yX5_costOf, Cond.code yX5_costOf cX5_costOf 3 (some .int), Cond.methodLink RL 155 yX6_costOf, Cond.instanceMethod yX6_costOf, Cond.selects RX6 yX6_costOf yX6_costOf, Cond.code yX6_costOf cX6_costOf 4 (some .int), Cond.methodLink RL 156 yL_proceedsOf, Cond.static yL_proceedsOf, Cond.codeWith yL_proceedsOf cL_proceedsOf 5 (some .int) [(0, 10, 13, 13)], Cond.methodLink RL 71 yX5_proceedsOf, Cond.instanceMethod yX5_proceedsOf]
def wsL_law0_r23 : List Cond := [Cond.selects RX5 yX5_proceedsOf yX5_proceedsOf, Cond.code yX5_proceedsOf cX5_proceedsOf 3 (some .int), Cond.methodLink RL 158 yX6_proceedsOf, Cond.instanceMethod yX6_proceedsOf, Cond.selects RX6 yX6_proceedsOf yX6_proceedsOf, Cond.code yX6_proceedsOf cX6_proceedsOf 4 (some .int), Cond.methodLink RL 159 yL_gain, Cond.static yL_gain, Cond.codeWith yL_gain cL_gain 5 (some .int) [(0, 10, 13, 13)], Cond.methodLink RL 74 yX5_gain, Cond.instanceMethod yX5_gain, Cond.selects RX5 yX5_gain yX5_gain, Cond.code yX5_gain cX5_gain 4 (some .int), Cond.methodLink RX5 179 yX2_gainOfYear, Cond.instanceMethod yX2_gainOfYear, Cond.selects RX2 yX2_gainOfYear yX2_gainOfYear, Cond.code yX2_gainOfYear cX2_gainOfYear 4 (some .int), Cond.methodLink RL 161 yX6_gain, Cond.instanceMethod yX6_gain, Cond.selects RX6 yX6_gain yX6_gain, Cond.code yX6_gain cX6_gain 3 (some .int), Cond.methodLink RX6 162 yX6_gained, Cond.instanceMethod yX6_gained, Cond.selects RX6 yX6_gained yX6_gained]
def wsL_law0_r24 : List Cond := [Cond.code yX6_gained cX6_gained 6 (some .int), Cond.methodLink RL 162 yL_net, Cond.static yL_net, Cond.codeWith yL_net cL_net 4 (some .int) [(0, 9, 12, 13)], Cond.methodLink RL 77 yX5_net, Cond.instanceMethod yX5_net, Cond.selects RX5 yX5_net yX5_net, Cond.code yX5_net cX5_net 2 (some .int), Cond.methodLink RX5 182 yX5_netOfYear, Cond.instanceMethod yX5_netOfYear, Cond.selects RX5 yX5_netOfYear yX5_netOfYear, Cond.code yX5_netOfYear cX5_netOfYear 4 (some .int), Cond.methodLink RL 164 yX6_net, Cond.instanceMethod yX6_net, Cond.selects RX6 yX6_net yX6_net, Cond.code yX6_net cX6_net 2 (some .int), Cond.methodLink RX6 165 yX6_isYear, Cond.instanceMethod yX6_isYear, Cond.selects RX6 yX6_isYear yX6_isYear, Cond.code yX6_isYear cX6_isYear 2 (some .boolean), Cond.methodLink RX6 168 yX6_netOf, Cond.instanceMethod yX6_netOf, Cond.selects RX6 yX6_netOf yX6_netOf, Cond.code yX6_netOf cX6_netOf 2 (some .int)]
def wsL_law0_r25 : List Cond := [Cond.methodLink RL 165 yL_carried, Cond.static yL_carried, Cond.codeWith yL_carried cL_carried 4 (some .int) [(0, 9, 12, 13)], Cond.methodLink RL 80 yX5_carried, Cond.instanceMethod yX5_carried, Cond.selects RX5 yX5_carried yX5_carried, Cond.code yX5_carried cX5_carried 2 (some .int), Cond.methodLink RX5 185 yX5_lossesOutOf, Cond.instanceMethod yX5_lossesOutOf, Cond.selects RX5 yX5_lossesOutOf yX5_lossesOutOf, Cond.code yX5_lossesOutOf cX5_lossesOutOf 5 (some .int), Cond.methodLink RX5 191 Lib.Math.min.name, Cond.methodLink RX5 188 yX5_aboveAllowance, Cond.instanceMethod yX5_aboveAllowance, Cond.selects RX5 yX5_aboveAllowance yX5_aboveAllowance, Cond.code yX5_aboveAllowance cX5_aboveAllowance 2 (some .int), Cond.methodLink RX5 197 Lib.Math.max.name, Cond.static Lib.Math.max.name, Cond.code Lib.Math.max.name Lib.Math.max.code 2 (some .int), Cond.methodLink RL 167 yX6_carried, Cond.instanceMethod yX6_carried, Cond.selects RX6 yX6_carried yX6_carried, Cond.code yX6_carried cX6_carried 2 (some .int), Cond.methodLink RX6 174 yX6_into]
def wsL_law0_r26 : List Cond := [Cond.instanceMethod yX6_into, Cond.selects RX6 yX6_into yX6_into, Cond.code yX6_into cX6_into 6 (some .int), Cond.methodLink RX6 171 yX6_above, Cond.instanceMethod yX6_above, Cond.selects RX6 yX6_above yX6_above, Cond.code yX6_above cX6_above 3 (some .int), Cond.methodLink RL 168 yL_taxable, Cond.static yL_taxable, Cond.codeWith yL_taxable cL_taxable 4 (some .int) [(0, 9, 12, 13)], Cond.methodLink RL 83 yX5_taxable, Cond.instanceMethod yX5_taxable, Cond.selects RX5 yX5_taxable yX5_taxable, Cond.code yX5_taxable cX5_taxable 3 (some .int), Cond.methodLink RL 170 yX6_taxable, Cond.instanceMethod yX6_taxable, Cond.selects RX6 yX6_taxable yX6_taxable, Cond.code yX6_taxable cX6_taxable 3 (some .int)]
def wsL_law0 : List Cond := (wsL_law0_r1 ++ (wsL_law0_r2 ++ (wsL_law0_r3 ++ (wsL_law0_r4 ++ (wsL_law0_r5 ++ (wsL_law0_r6 ++ (wsL_law0_r7 ++ (wsL_law0_r8 ++ (wsL_law0_r9 ++ (wsL_law0_r10 ++ (wsL_law0_r11 ++ (wsL_law0_r12 ++ (wsL_law0_r13 ++ (wsL_law0_r14 ++ (wsL_law0_r15 ++ (wsL_law0_r16 ++ (wsL_law0_r17 ++ (wsL_law0_r18 ++ (wsL_law0_r19 ++ (wsL_law0_r20 ++ (wsL_law0_r21 ++ (wsL_law0_r22 ++ (wsL_law0_r23 ++ (wsL_law0_r24 ++ (wsL_law0_r25 ++ wsL_law0_r26))))))))))))))))))))))))) ++ wsX50 ++ wsX60 ++ wsX00 ++ wsX10 ++ wsX40 ++ wsX30 ++ wsX20 ++ ([] : List Cond)
def wsL_law : List Cond := wsL_law0 ++ (vx_atS RX5 92 "java/lang/IndexOutOfBoundsException" ["java/lang/RuntimeException", "java/lang/Exception"]).filter goodWord ++ (vx_atS RX5 60 "java/lang/IllegalArgumentException" ["java/lang/RuntimeException", "java/lang/Exception"]).filter goodWord ++ (vx_atS RX5 81 "java/lang/IllegalStateException" ["java/lang/RuntimeException", "java/lang/Exception"]).filter goodWord
abbrev vwCl : List vw_C := [(RX0, TX0, 7), (RX1, TX1, 4), (RX2, TX2, 7), (RX3, TX3, 10), (RX4, TX4, 3), (RX5, TX5, 4), (RX6, TX6, 30)]
end
section
theorem dX0_init_0 : decode cX0_init 0 = .ok (.aload_n 0, 1) := by decide +kernel
theorem dX0_init_1 : decode cX0_init 1 = .ok (.invokespecial 3, 3) := by decide +kernel
theorem dX0_init_4 : decode cX0_init 4 = .ok (.aload_n 0, 1) := by decide +kernel
theorem dX0_init_5 : decode cX0_init 5 = .ok (.bipush 60, 2) := by decide +kernel
theorem dX0_init_7 : decode cX0_init 7 = .ok (.newarray .boolean, 2) := by decide +kernel
theorem dX0_init_9 : decode cX0_init 9 = .ok (.putfield 9, 3) := by decide +kernel
theorem dX0_init_12 : decode cX0_init 12 = .ok (.aload_n 0, 1) := by decide +kernel
theorem dX0_init_13 : decode cX0_init 13 = .ok (.bipush 60, 2) := by decide +kernel
theorem dX0_init_15 : decode cX0_init 15 = .ok (.newarray .boolean, 2) := by decide +kernel
theorem dX0_init_17 : decode cX0_init 17 = .ok (.putfield 15, 3) := by decide +kernel
theorem dX0_init_20 : decode cX0_init 20 = .ok (.aload_n 0, 1) := by decide +kernel
theorem dX0_init_21 : decode cX0_init 21 = .ok (.bipush 60, 2) := by decide +kernel
theorem dX0_init_23 : decode cX0_init 23 = .ok (.newarray .int, 2) := by decide +kernel
theorem dX0_init_25 : decode cX0_init 25 = .ok (.putfield 18, 3) := by decide +kernel
theorem dX0_init_28 : decode cX0_init 28 = .ok (.aload_n 0, 1) := by decide +kernel
theorem dX0_init_29 : decode cX0_init 29 = .ok (.bipush 60, 2) := by decide +kernel
theorem dX0_init_31 : decode cX0_init 31 = .ok (.newarray .int, 2) := by decide +kernel
theorem dX0_init_33 : decode cX0_init 33 = .ok (.putfield 22, 3) := by decide +kernel
theorem dX0_init_36 : decode cX0_init 36 = .ok (.aload_n 0, 1) := by decide +kernel
theorem dX0_init_37 : decode cX0_init 37 = .ok (.bipush 60, 2) := by decide +kernel
theorem dX0_init_39 : decode cX0_init 39 = .ok (.newarray .int, 2) := by decide +kernel
theorem dX0_init_41 : decode cX0_init 41 = .ok (.putfield 25, 3) := by decide +kernel
theorem dX0_init_44 : decode cX0_init 44 = .ok (.aload_n 0, 1) := by decide +kernel
theorem dX0_init_45 : decode cX0_init 45 = .ok (.bipush 60, 2) := by decide +kernel
theorem dX0_init_47 : decode cX0_init 47 = .ok (.newarray .int, 2) := by decide +kernel
theorem dX0_init_49 : decode cX0_init 49 = .ok (.putfield 28, 3) := by decide +kernel
theorem dX0_init_52 : decode cX0_init 52 = .ok (.aload_n 0, 1) := by decide +kernel
theorem dX0_init_53 : decode cX0_init 53 = .ok (.iconst 0, 1) := by decide +kernel
theorem dX0_init_54 : decode cX0_init 54 = .ok (.putfield 31, 3) := by decide +kernel
theorem dX0_init_57 : decode cX0_init 57 = .ok (.return_, 1) := by decide +kernel
theorem dX0_isFull_0 : decode cX0_isFull 0 = .ok (.aload_n 0, 1) := by decide +kernel
theorem dX0_isFull_1 : decode cX0_isFull 1 = .ok (.getfield 31, 3) := by decide +kernel
theorem dX0_isFull_4 : decode cX0_isFull 4 = .ok (.bipush 60, 2) := by decide +kernel
theorem dX0_isFull_6 : decode cX0_isFull 6 = .ok (.if_icmp .lt 7, 3) := by decide +kernel
theorem dX0_isFull_9 : decode cX0_isFull 9 = .ok (.iconst 1, 1) := by decide +kernel
theorem dX0_isFull_10 : decode cX0_isFull 10 = .ok (.goto 4, 3) := by decide +kernel
theorem dX0_isFull_13 : decode cX0_isFull 13 = .ok (.iconst 0, 1) := by decide +kernel
theorem dX0_isFull_14 : decode cX0_isFull 14 = .ok (.ireturn, 1) := by decide +kernel
set_option maxRecDepth 20000 in
theorem ggX0_enter_X0_isFull : GoodIn wsX0_enter wsX0_isFull := goodIn_r _ [11, 1, 12, 13, 14, 15, 16, 17, 18] (by decide +kernel) (by decide +kernel)
set_option maxRecDepth 20000 in
theorem gX0_enter_X0_isFull : GoodIn wsX0_enter (wsV RX0 35 RX0 yX0_isFull wsX0_isFull) := goodIn_app (goodIn_of _ (by decide +kernel)) ggX0_enter_X0_isFull
theorem dX0_enter_0 : decode cX0_enter 0 = .ok (.aload_n 0, 1) := by decide +kernel
theorem dX0_enter_1 : decode cX0_enter 1 = .ok (.invokevirtual 35, 3) := by decide +kernel
theorem dX0_enter_4 : decode cX0_enter 4 = .ok (.ifCond .eq 5, 3) := by decide +kernel
theorem dX0_enter_7 : decode cX0_enter 7 = .ok (.iconst (-1), 1) := by decide +kernel
theorem dX0_enter_8 : decode cX0_enter 8 = .ok (.ireturn, 1) := by decide +kernel
theorem dX0_enter_9 : decode cX0_enter 9 = .ok (.aload_n 0, 1) := by decide +kernel
theorem dX0_enter_10 : decode cX0_enter 10 = .ok (.getfield 31, 3) := by decide +kernel
theorem dX0_enter_13 : decode cX0_enter 13 = .ok (.istore 6, 2) := by decide +kernel
theorem dX0_enter_15 : decode cX0_enter 15 = .ok (.aload_n 0, 1) := by decide +kernel
theorem dX0_enter_16 : decode cX0_enter 16 = .ok (.getfield 9, 3) := by decide +kernel
theorem dX0_enter_19 : decode cX0_enter 19 = .ok (.iload 6, 2) := by decide +kernel
theorem dX0_enter_21 : decode cX0_enter 21 = .ok (.iload_n 1, 1) := by decide +kernel
theorem dX0_enter_22 : decode cX0_enter 22 = .ok (.bastore, 1) := by decide +kernel
theorem dX0_enter_23 : decode cX0_enter 23 = .ok (.aload_n 0, 1) := by decide +kernel
theorem dX0_enter_24 : decode cX0_enter 24 = .ok (.getfield 18, 3) := by decide +kernel
theorem dX0_enter_27 : decode cX0_enter 27 = .ok (.iload 6, 2) := by decide +kernel
theorem dX0_enter_29 : decode cX0_enter 29 = .ok (.iload_n 2, 1) := by decide +kernel
theorem dX0_enter_30 : decode cX0_enter 30 = .ok (.iastore, 1) := by decide +kernel
theorem dX0_enter_31 : decode cX0_enter 31 = .ok (.aload_n 0, 1) := by decide +kernel
theorem dX0_enter_32 : decode cX0_enter 32 = .ok (.getfield 22, 3) := by decide +kernel
theorem dX0_enter_35 : decode cX0_enter 35 = .ok (.iload 6, 2) := by decide +kernel
theorem dX0_enter_37 : decode cX0_enter 37 = .ok (.iload_n 3, 1) := by decide +kernel
theorem dX0_enter_38 : decode cX0_enter 38 = .ok (.iastore, 1) := by decide +kernel
theorem dX0_enter_39 : decode cX0_enter 39 = .ok (.aload_n 0, 1) := by decide +kernel
theorem dX0_enter_40 : decode cX0_enter 40 = .ok (.getfield 25, 3) := by decide +kernel
theorem dX0_enter_43 : decode cX0_enter 43 = .ok (.iload 6, 2) := by decide +kernel
theorem dX0_enter_45 : decode cX0_enter 45 = .ok (.iload 4, 2) := by decide +kernel
theorem dX0_enter_47 : decode cX0_enter 47 = .ok (.iastore, 1) := by decide +kernel
theorem dX0_enter_48 : decode cX0_enter 48 = .ok (.aload_n 0, 1) := by decide +kernel
theorem dX0_enter_49 : decode cX0_enter 49 = .ok (.getfield 28, 3) := by decide +kernel
theorem dX0_enter_52 : decode cX0_enter 52 = .ok (.iload 6, 2) := by decide +kernel
theorem dX0_enter_54 : decode cX0_enter 54 = .ok (.iload 5, 2) := by decide +kernel
theorem dX0_enter_56 : decode cX0_enter 56 = .ok (.iastore, 1) := by decide +kernel
theorem dX0_enter_57 : decode cX0_enter 57 = .ok (.aload_n 0, 1) := by decide +kernel
theorem dX0_enter_58 : decode cX0_enter 58 = .ok (.dup, 1) := by decide +kernel
theorem dX0_enter_59 : decode cX0_enter 59 = .ok (.getfield 31, 3) := by decide +kernel
theorem dX0_enter_62 : decode cX0_enter 62 = .ok (.iconst 1, 1) := by decide +kernel
theorem dX0_enter_63 : decode cX0_enter 63 = .ok (.iadd, 1) := by decide +kernel
theorem dX0_enter_64 : decode cX0_enter 64 = .ok (.putfield 31, 3) := by decide +kernel
theorem dX0_enter_67 : decode cX0_enter 67 = .ok (.iload 6, 2) := by decide +kernel
theorem dX0_enter_69 : decode cX0_enter 69 = .ok (.ireturn, 1) := by decide +kernel
theorem dX0_counts_0 : decode cX0_counts 0 = .ok (.aload_n 0, 1) := by decide +kernel
theorem dX0_counts_1 : decode cX0_counts 1 = .ok (.getfield 18, 3) := by decide +kernel
theorem dX0_counts_4 : decode cX0_counts 4 = .ok (.iload_n 1, 1) := by decide +kernel
theorem dX0_counts_5 : decode cX0_counts 5 = .ok (.iaload, 1) := by decide +kernel
theorem dX0_counts_6 : decode cX0_counts 6 = .ok (.iload_n 2, 1) := by decide +kernel
theorem dX0_counts_7 : decode cX0_counts 7 = .ok (.if_icmp .ne 16, 3) := by decide +kernel
theorem dX0_counts_10 : decode cX0_counts 10 = .ok (.aload_n 0, 1) := by decide +kernel
theorem dX0_counts_11 : decode cX0_counts 11 = .ok (.getfield 15, 3) := by decide +kernel
theorem dX0_counts_14 : decode cX0_counts 14 = .ok (.iload_n 1, 1) := by decide +kernel
theorem dX0_counts_15 : decode cX0_counts 15 = .ok (.baload, 1) := by decide +kernel
theorem dX0_counts_16 : decode cX0_counts 16 = .ok (.ifCond .ne 7, 3) := by decide +kernel
theorem dX0_counts_19 : decode cX0_counts 19 = .ok (.iconst 1, 1) := by decide +kernel
theorem dX0_counts_20 : decode cX0_counts 20 = .ok (.goto 4, 3) := by decide +kernel
theorem dX0_counts_23 : decode cX0_counts 23 = .ok (.iconst 0, 1) := by decide +kernel
theorem dX0_counts_24 : decode cX0_counts 24 = .ok (.ireturn, 1) := by decide +kernel
set_option maxRecDepth 20000 in
theorem ggX1_init_X4_init : GoodIn wsX1_init wsX4_init := goodIn_r _ [18, 19, 2, 3, 20, 21, 22, 23, 47, 48, 49] (by decide +kernel) (by decide +kernel)
set_option maxRecDepth 20000 in
theorem gX1_init_X4_init_n11 : GoodIn wsX1_init (wsX4_init) := ggX1_init_X4_init
set_option maxRecDepth 20000 in
theorem ggX1_init_X3_init : GoodIn wsX1_init wsX3_init := goodIn_r _ [25, 26, 2, 3, 20, 27, 28, 29, 30, 31, 32, 33, 34, 35, 36, 54, 55, 56, 57, 58, 59, 60, 61, 62, 63] (by decide +kernel) (by decide +kernel)
set_option maxRecDepth 20000 in
theorem gX1_init_X3_init_n20 : GoodIn wsX1_init (wsX3_init) := ggX1_init_X3_init
set_option maxRecDepth 20000 in
theorem ggX1_init_X2_init : GoodIn wsX1_init wsX2_init := goodIn_r _ [38, 39, 2, 3, 20, 40, 41, 42, 43, 44, 45, 46, 64, 65, 66, 67, 68, 69, 70] (by decide +kernel) (by decide +kernel)
set_option maxRecDepth 20000 in
theorem gX1_init_X2_init_n27 : GoodIn wsX1_init (wsX2_init) := ggX1_init_X2_init
theorem dX1_init_0 : decode cX1_init 0 = .ok (.aload_n 0, 1) := by decide +kernel
theorem dX1_init_1 : decode cX1_init 1 = .ok (.invokespecial 3, 3) := by decide +kernel
theorem dX1_init_4 : decode cX1_init 4 = .ok (.aload_n 0, 1) := by decide +kernel
theorem dX1_init_5 : decode cX1_init 5 = .ok (.new 9, 3) := by decide +kernel
theorem dX1_init_8 : decode cX1_init 8 = .ok (.dup, 1) := by decide +kernel
theorem dX1_init_9 : decode cX1_init 9 = .ok (.invokespecial 11, 3) := by decide +kernel
theorem dX1_init_12 : decode cX1_init 12 = .ok (.putfield 12, 3) := by decide +kernel
theorem dX1_init_15 : decode cX1_init 15 = .ok (.aload_n 0, 1) := by decide +kernel
theorem dX1_init_16 : decode cX1_init 16 = .ok (.new 18, 3) := by decide +kernel
theorem dX1_init_19 : decode cX1_init 19 = .ok (.dup, 1) := by decide +kernel
theorem dX1_init_20 : decode cX1_init 20 = .ok (.invokespecial 20, 3) := by decide +kernel
theorem dX1_init_23 : decode cX1_init 23 = .ok (.putfield 21, 3) := by decide +kernel
theorem dX1_init_26 : decode cX1_init 26 = .ok (.aload_n 0, 1) := by decide +kernel
theorem dX1_init_27 : decode cX1_init 27 = .ok (.new 25, 3) := by decide +kernel
theorem dX1_init_30 : decode cX1_init 30 = .ok (.dup, 1) := by decide +kernel
theorem dX1_init_31 : decode cX1_init 31 = .ok (.invokespecial 27, 3) := by decide +kernel
theorem dX1_init_34 : decode cX1_init 34 = .ok (.putfield 28, 3) := by decide +kernel
theorem dX1_init_37 : decode cX1_init 37 = .ok (.aload_n 0, 1) := by decide +kernel
theorem dX1_init_38 : decode cX1_init 38 = .ok (.iload_n 1, 1) := by decide +kernel
theorem dX1_init_39 : decode cX1_init 39 = .ok (.putfield 32, 3) := by decide +kernel
theorem dX1_init_42 : decode cX1_init 42 = .ok (.return_, 1) := by decide +kernel
set_option maxRecDepth 20000 in
theorem ggX1_reckon_X3_fill : GoodIn wsX1_reckon wsX3_fill := goodIn_r _ [9, 10, 11, 12, 8, 13, 14, 15, 16, 17, 18, 19, 20, 21, 22, 23, 24, 25, 26, 27, 28, 29, 30, 31, 32, 33, 34, 35, 36, 37, 38, 39, 40, 41, 42, 43, 44, 45, 46, 47, 48, 49, 50, 51, 52, 53, 54, 55, 56, 115, 116, 117, 118, 119, 120, 121, 105, 106, 107, 108, 109, 110, 111, 112, 113, 114, 122, 123, 124] (by decide +kernel) (by decide +kernel)
set_option maxRecDepth 20000 in
theorem gX1_reckon_X3_fill : GoodIn wsX1_reckon (wsV RX1 36 RX3 yX3_fill wsX3_fill) := goodIn_app (goodIn_of _ (by decide +kernel)) ggX1_reckon_X3_fill
set_option maxRecDepth 20000 in
theorem ggX1_reckon_X1_matchSameDay : GoodIn wsX1_reckon wsX1_matchSameDay := goodIn_r _ [61, 1, 62, 52, 53, 54, 4, 63, 64, 65, 66, 67, 68, 69, 70, 71, 72, 73, 74, 75, 76, 77, 94, 95, 96, 97, 105, 106, 107, 108, 109, 110, 111, 112, 113, 114, 98, 99, 100, 101, 102, 103, 104] (by decide +kernel) (by decide +kernel)
set_option maxRecDepth 20000 in
theorem gX1_reckon_X1_matchSameDay : GoodIn wsX1_reckon (wsV RX1 44 RX1 yX1_matchSameDay wsX1_matchSameDay) := goodIn_app (goodIn_of _ (by decide +kernel)) ggX1_reckon_X1_matchSameDay
set_option maxRecDepth 20000 in
theorem ggX1_reckon_X1_matchLaterDays : GoodIn wsX1_reckon wsX1_matchLaterDays := goodIn_r _ [81, 1, 62, 52, 53, 54, 4, 82, 83, 84, 60, 85, 63, 64, 65, 86, 87, 88, 89, 66, 67, 68, 69, 70, 71, 72, 73, 74, 75, 76, 77, 94, 95, 96, 97, 105, 106, 107, 108, 109, 110, 111, 112, 113, 114, 98, 99, 100, 101, 102, 103, 104] (by decide +kernel) (by decide +kernel)
set_option maxRecDepth 20000 in
theorem gX1_reckon_X1_matchLaterDays : GoodIn wsX1_reckon (wsV RX1 48 RX1 yX1_matchLaterDays wsX1_matchLaterDays) := goodIn_app (goodIn_of _ (by decide +kernel)) ggX1_reckon_X1_matchLaterDays
set_option maxRecDepth 20000 in
theorem ggX1_reckon_X1_pool : GoodIn wsX1_reckon wsX1_pool := goodIn_r _ [93, 1, 4, 82, 83, 84, 60, 85, 63, 64, 65, 86, 87, 88, 89, 66, 67, 68, 69, 70, 71, 72, 73, 74, 75, 76, 77, 94, 95, 96, 97, 105, 106, 107, 108, 109, 110, 111, 112, 113, 114, 98, 99, 100, 101, 102, 103, 104] (by decide +kernel) (by decide +kernel)
set_option maxRecDepth 20000 in
theorem gX1_reckon_X1_pool : GoodIn wsX1_reckon (wsV RX1 52 RX1 yX1_pool wsX1_pool) := goodIn_app (goodIn_of _ (by decide +kernel)) ggX1_reckon_X1_pool
theorem dX1_reckon_0 : decode cX1_reckon 0 = .ok (.aload_n 0, 1) := by decide +kernel
theorem dX1_reckon_1 : decode cX1_reckon 1 = .ok (.getfield 21, 3) := by decide +kernel
theorem dX1_reckon_4 : decode cX1_reckon 4 = .ok (.aload_n 1, 1) := by decide +kernel
theorem dX1_reckon_5 : decode cX1_reckon 5 = .ok (.aload_n 0, 1) := by decide +kernel
theorem dX1_reckon_6 : decode cX1_reckon 6 = .ok (.getfield 32, 3) := by decide +kernel
theorem dX1_reckon_9 : decode cX1_reckon 9 = .ok (.aload_n 0, 1) := by decide +kernel
theorem dX1_reckon_10 : decode cX1_reckon 10 = .ok (.getfield 12, 3) := by decide +kernel
theorem dX1_reckon_13 : decode cX1_reckon 13 = .ok (.invokevirtual 36, 3) := by decide +kernel
theorem dX1_reckon_16 : decode cX1_reckon 16 = .ok (.aload_n 0, 1) := by decide +kernel
theorem dX1_reckon_17 : decode cX1_reckon 17 = .ok (.getfield 28, 3) := by decide +kernel
theorem dX1_reckon_20 : decode cX1_reckon 20 = .ok (.iconst 0, 1) := by decide +kernel
theorem dX1_reckon_21 : decode cX1_reckon 21 = .ok (.putfield 40, 3) := by decide +kernel
theorem dX1_reckon_24 : decode cX1_reckon 24 = .ok (.iconst 0, 1) := by decide +kernel
theorem dX1_reckon_25 : decode cX1_reckon 25 = .ok (.istore_n 3, 1) := by decide +kernel
theorem dX1_reckon_26 : decode cX1_reckon 26 = .ok (.iload_n 3, 1) := by decide +kernel
theorem dX1_reckon_27 : decode cX1_reckon 27 = .ok (.aload_n 0, 1) := by decide +kernel
theorem dX1_reckon_28 : decode cX1_reckon 28 = .ok (.getfield 21, 3) := by decide +kernel
theorem dX1_reckon_31 : decode cX1_reckon 31 = .ok (.getfield 43, 3) := by decide +kernel
theorem dX1_reckon_34 : decode cX1_reckon 34 = .ok (.if_icmp .ge 25, 3) := by decide +kernel
theorem dX1_reckon_37 : decode cX1_reckon 37 = .ok (.aload_n 0, 1) := by decide +kernel
theorem dX1_reckon_38 : decode cX1_reckon 38 = .ok (.iload_n 3, 1) := by decide +kernel
theorem dX1_reckon_39 : decode cX1_reckon 39 = .ok (.invokevirtual 44, 3) := by decide +kernel
theorem dX1_reckon_42 : decode cX1_reckon 42 = .ok (.aload_n 0, 1) := by decide +kernel
theorem dX1_reckon_43 : decode cX1_reckon 43 = .ok (.iload_n 3, 1) := by decide +kernel
theorem dX1_reckon_44 : decode cX1_reckon 44 = .ok (.iload_n 2, 1) := by decide +kernel
theorem dX1_reckon_45 : decode cX1_reckon 45 = .ok (.invokevirtual 48, 3) := by decide +kernel
theorem dX1_reckon_48 : decode cX1_reckon 48 = .ok (.aload_n 0, 1) := by decide +kernel
theorem dX1_reckon_49 : decode cX1_reckon 49 = .ok (.iload_n 3, 1) := by decide +kernel
theorem dX1_reckon_50 : decode cX1_reckon 50 = .ok (.invokevirtual 52, 3) := by decide +kernel
theorem dX1_reckon_53 : decode cX1_reckon 53 = .ok (.iinc 3 1, 3) := by decide +kernel
theorem dX1_reckon_56 : decode cX1_reckon 56 = .ok (.goto (-30), 3) := by decide +kernel
theorem dX1_reckon_59 : decode cX1_reckon 59 = .ok (.return_, 1) := by decide +kernel
set_option maxRecDepth 20000 in
theorem ggX1_heldShares_X0_counts : GoodIn wsX1_heldShares wsX0_counts := goodIn_r _ [7, 8, 9, 18, 19, 20, 21, 22, 23, 24] (by decide +kernel) (by decide +kernel)
set_option maxRecDepth 20000 in
theorem gX1_heldShares_X0_counts : GoodIn wsX1_heldShares (wsV RX1 62 RX0 yX0_counts wsX0_counts) := goodIn_app (goodIn_of _ (by decide +kernel)) ggX1_heldShares_X0_counts
set_option maxRecDepth 20000 in
theorem ggX1_heldShares_X4_factorBetween : GoodIn wsX1_heldShares wsX4_factorBetween := goodIn_r _ [14, 15, 16, 17, 29, 30, 31] (by decide +kernel) (by decide +kernel)
set_option maxRecDepth 20000 in
theorem gX1_heldShares_X4_factorBetween : GoodIn wsX1_heldShares (wsV RX1 69 RX4 yX4_factorBetween wsX4_factorBetween) := goodIn_app (goodIn_of _ (by decide +kernel)) ggX1_heldShares_X4_factorBetween
theorem dX1_heldShares_0 : decode cX1_heldShares 0 = .ok (.iconst 0, 1) := by decide +kernel
theorem dX1_heldShares_1 : decode cX1_heldShares 1 = .ok (.istore_n 3, 1) := by decide +kernel
theorem dX1_heldShares_2 : decode cX1_heldShares 2 = .ok (.iconst 0, 1) := by decide +kernel
theorem dX1_heldShares_3 : decode cX1_heldShares 3 = .ok (.istore 4, 2) := by decide +kernel
theorem dX1_heldShares_5 : decode cX1_heldShares 5 = .ok (.iload 4, 2) := by decide +kernel
theorem dX1_heldShares_7 : decode cX1_heldShares 7 = .ok (.aload_n 1, 1) := by decide +kernel
theorem dX1_heldShares_8 : decode cX1_heldShares 8 = .ok (.getfield 55, 3) := by decide +kernel
theorem dX1_heldShares_11 : decode cX1_heldShares 11 = .ok (.if_icmp .ge 78, 3) := by decide +kernel
theorem dX1_heldShares_14 : decode cX1_heldShares 14 = .ok (.aload_n 1, 1) := by decide +kernel
theorem dX1_heldShares_15 : decode cX1_heldShares 15 = .ok (.getfield 58, 3) := by decide +kernel
theorem dX1_heldShares_18 : decode cX1_heldShares 18 = .ok (.iload 4, 2) := by decide +kernel
theorem dX1_heldShares_20 : decode cX1_heldShares 20 = .ok (.iaload, 1) := by decide +kernel
theorem dX1_heldShares_21 : decode cX1_heldShares 21 = .ok (.istore 5, 2) := by decide +kernel
theorem dX1_heldShares_23 : decode cX1_heldShares 23 = .ok (.aload_n 1, 1) := by decide +kernel
theorem dX1_heldShares_24 : decode cX1_heldShares 24 = .ok (.iload 4, 2) := by decide +kernel
theorem dX1_heldShares_26 : decode cX1_heldShares 26 = .ok (.aload_n 0, 1) := by decide +kernel
theorem dX1_heldShares_27 : decode cX1_heldShares 27 = .ok (.getfield 32, 3) := by decide +kernel
theorem dX1_heldShares_30 : decode cX1_heldShares 30 = .ok (.invokevirtual 62, 3) := by decide +kernel
theorem dX1_heldShares_33 : decode cX1_heldShares 33 = .ok (.ifCond .eq 50, 3) := by decide +kernel
theorem dX1_heldShares_36 : decode cX1_heldShares 36 = .ok (.iload 5, 2) := by decide +kernel
theorem dX1_heldShares_38 : decode cX1_heldShares 38 = .ok (.iload_n 2, 1) := by decide +kernel
theorem dX1_heldShares_39 : decode cX1_heldShares 39 = .ok (.if_icmp .gt 44, 3) := by decide +kernel
theorem dX1_heldShares_42 : decode cX1_heldShares 42 = .ok (.aload_n 1, 1) := by decide +kernel
theorem dX1_heldShares_43 : decode cX1_heldShares 43 = .ok (.getfield 66, 3) := by decide +kernel
theorem dX1_heldShares_46 : decode cX1_heldShares 46 = .ok (.iload 4, 2) := by decide +kernel
theorem dX1_heldShares_48 : decode cX1_heldShares 48 = .ok (.iaload, 1) := by decide +kernel
theorem dX1_heldShares_49 : decode cX1_heldShares 49 = .ok (.aload_n 0, 1) := by decide +kernel
theorem dX1_heldShares_50 : decode cX1_heldShares 50 = .ok (.getfield 12, 3) := by decide +kernel
theorem dX1_heldShares_53 : decode cX1_heldShares 53 = .ok (.iload 5, 2) := by decide +kernel
theorem dX1_heldShares_55 : decode cX1_heldShares 55 = .ok (.iload_n 2, 1) := by decide +kernel
theorem dX1_heldShares_56 : decode cX1_heldShares 56 = .ok (.invokevirtual 69, 3) := by decide +kernel
theorem dX1_heldShares_59 : decode cX1_heldShares 59 = .ok (.imul, 1) := by decide +kernel
theorem dX1_heldShares_60 : decode cX1_heldShares 60 = .ok (.istore 6, 2) := by decide +kernel
theorem dX1_heldShares_62 : decode cX1_heldShares 62 = .ok (.iload_n 3, 1) := by decide +kernel
theorem dX1_heldShares_63 : decode cX1_heldShares 63 = .ok (.aload_n 1, 1) := by decide +kernel
theorem dX1_heldShares_64 : decode cX1_heldShares 64 = .ok (.getfield 73, 3) := by decide +kernel
theorem dX1_heldShares_67 : decode cX1_heldShares 67 = .ok (.iload 4, 2) := by decide +kernel
theorem dX1_heldShares_69 : decode cX1_heldShares 69 = .ok (.baload, 1) := by decide +kernel
theorem dX1_heldShares_70 : decode cX1_heldShares 70 = .ok (.ifCond .eq 9, 3) := by decide +kernel
theorem dX1_heldShares_73 : decode cX1_heldShares 73 = .ok (.iload 6, 2) := by decide +kernel
theorem dX1_heldShares_75 : decode cX1_heldShares 75 = .ok (.ineg, 1) := by decide +kernel
theorem dX1_heldShares_76 : decode cX1_heldShares 76 = .ok (.goto 5, 3) := by decide +kernel
theorem dX1_heldShares_79 : decode cX1_heldShares 79 = .ok (.iload 6, 2) := by decide +kernel
theorem dX1_heldShares_81 : decode cX1_heldShares 81 = .ok (.iadd, 1) := by decide +kernel
theorem dX1_heldShares_82 : decode cX1_heldShares 82 = .ok (.istore_n 3, 1) := by decide +kernel
theorem dX1_heldShares_83 : decode cX1_heldShares 83 = .ok (.iinc 4 1, 3) := by decide +kernel
theorem dX1_heldShares_86 : decode cX1_heldShares 86 = .ok (.goto (-81), 3) := by decide +kernel
theorem dX1_heldShares_89 : decode cX1_heldShares 89 = .ok (.iload_n 3, 1) := by decide +kernel
theorem dX1_heldShares_90 : decode cX1_heldShares 90 = .ok (.ireturn, 1) := by decide +kernel
set_option maxRecDepth 20000 in
theorem ggX1_matchSameDay_X5_part : GoodIn wsX1_matchSameDay wsX5_part := goodIn_r _ [9] (by decide +kernel) (by decide +kernel)
set_option maxRecDepth 20000 in
theorem gX1_matchSameDay_X5_part_n91 : GoodIn wsX1_matchSameDay (wsX5_part) := ggX1_matchSameDay_X5_part
set_option maxRecDepth 20000 in
theorem ggX1_matchSameDay_X2_add : GoodIn wsX1_matchSameDay wsX2_add := goodIn_r _ [14, 15, 16, 17, 18, 19, 20, 21, 36, 37, 38, 39, 40, 41, 42] (by decide +kernel) (by decide +kernel)
set_option maxRecDepth 20000 in
theorem gX1_matchSameDay_X2_add : GoodIn wsX1_matchSameDay (wsV RX1 99 RX2 yX2_add wsX2_add) := goodIn_app (goodIn_of _ (by decide +kernel)) ggX1_matchSameDay_X2_add
theorem dX1_matchSameDay_0 : decode cX1_matchSameDay 0 = .ok (.aload_n 0, 1) := by decide +kernel
theorem dX1_matchSameDay_1 : decode cX1_matchSameDay 1 = .ok (.getfield 21, 3) := by decide +kernel
theorem dX1_matchSameDay_4 : decode cX1_matchSameDay 4 = .ok (.getfield 77, 3) := by decide +kernel
theorem dX1_matchSameDay_7 : decode cX1_matchSameDay 7 = .ok (.iload_n 1, 1) := by decide +kernel
theorem dX1_matchSameDay_8 : decode cX1_matchSameDay 8 = .ok (.iaload, 1) := by decide +kernel
theorem dX1_matchSameDay_9 : decode cX1_matchSameDay 9 = .ok (.aload_n 0, 1) := by decide +kernel
theorem dX1_matchSameDay_10 : decode cX1_matchSameDay 10 = .ok (.getfield 21, 3) := by decide +kernel
theorem dX1_matchSameDay_13 : decode cX1_matchSameDay 13 = .ok (.getfield 80, 3) := by decide +kernel
theorem dX1_matchSameDay_16 : decode cX1_matchSameDay 16 = .ok (.iload_n 1, 1) := by decide +kernel
theorem dX1_matchSameDay_17 : decode cX1_matchSameDay 17 = .ok (.iaload, 1) := by decide +kernel
theorem dX1_matchSameDay_18 : decode cX1_matchSameDay 18 = .ok (.invokestatic 83, 3) := by decide +kernel
theorem dX1_matchSameDay_21 : decode cX1_matchSameDay 21 = .ok (.istore_n 2, 1) := by decide +kernel
theorem dX1_matchSameDay_22 : decode cX1_matchSameDay 22 = .ok (.iload_n 2, 1) := by decide +kernel
theorem dX1_matchSameDay_23 : decode cX1_matchSameDay 23 = .ok (.ifCond .le 82, 3) := by decide +kernel
theorem dX1_matchSameDay_26 : decode cX1_matchSameDay 26 = .ok (.aload_n 0, 1) := by decide +kernel
theorem dX1_matchSameDay_27 : decode cX1_matchSameDay 27 = .ok (.getfield 21, 3) := by decide +kernel
theorem dX1_matchSameDay_30 : decode cX1_matchSameDay 30 = .ok (.getfield 88, 3) := by decide +kernel
theorem dX1_matchSameDay_33 : decode cX1_matchSameDay 33 = .ok (.iload_n 1, 1) := by decide +kernel
theorem dX1_matchSameDay_34 : decode cX1_matchSameDay 34 = .ok (.iaload, 1) := by decide +kernel
theorem dX1_matchSameDay_35 : decode cX1_matchSameDay 35 = .ok (.iconst 0, 1) := by decide +kernel
theorem dX1_matchSameDay_36 : decode cX1_matchSameDay 36 = .ok (.iload_n 2, 1) := by decide +kernel
theorem dX1_matchSameDay_37 : decode cX1_matchSameDay 37 = .ok (.aload_n 0, 1) := by decide +kernel
theorem dX1_matchSameDay_38 : decode cX1_matchSameDay 38 = .ok (.getfield 21, 3) := by decide +kernel
theorem dX1_matchSameDay_41 : decode cX1_matchSameDay 41 = .ok (.getfield 77, 3) := by decide +kernel
theorem dX1_matchSameDay_44 : decode cX1_matchSameDay 44 = .ok (.iload_n 1, 1) := by decide +kernel
theorem dX1_matchSameDay_45 : decode cX1_matchSameDay 45 = .ok (.iaload, 1) := by decide +kernel
theorem dX1_matchSameDay_46 : decode cX1_matchSameDay 46 = .ok (.invokestatic 91, 3) := by decide +kernel
theorem dX1_matchSameDay_49 : decode cX1_matchSameDay 49 = .ok (.istore_n 3, 1) := by decide +kernel
theorem dX1_matchSameDay_50 : decode cX1_matchSameDay 50 = .ok (.aload_n 0, 1) := by decide +kernel
theorem dX1_matchSameDay_51 : decode cX1_matchSameDay 51 = .ok (.getfield 21, 3) := by decide +kernel
theorem dX1_matchSameDay_54 : decode cX1_matchSameDay 54 = .ok (.getfield 95, 3) := by decide +kernel
theorem dX1_matchSameDay_57 : decode cX1_matchSameDay 57 = .ok (.iload_n 1, 1) := by decide +kernel
theorem dX1_matchSameDay_58 : decode cX1_matchSameDay 58 = .ok (.iaload, 1) := by decide +kernel
theorem dX1_matchSameDay_59 : decode cX1_matchSameDay 59 = .ok (.iconst 0, 1) := by decide +kernel
theorem dX1_matchSameDay_60 : decode cX1_matchSameDay 60 = .ok (.iload_n 2, 1) := by decide +kernel
theorem dX1_matchSameDay_61 : decode cX1_matchSameDay 61 = .ok (.aload_n 0, 1) := by decide +kernel
theorem dX1_matchSameDay_62 : decode cX1_matchSameDay 62 = .ok (.getfield 21, 3) := by decide +kernel
theorem dX1_matchSameDay_65 : decode cX1_matchSameDay 65 = .ok (.getfield 80, 3) := by decide +kernel
theorem dX1_matchSameDay_68 : decode cX1_matchSameDay 68 = .ok (.iload_n 1, 1) := by decide +kernel
theorem dX1_matchSameDay_69 : decode cX1_matchSameDay 69 = .ok (.iaload, 1) := by decide +kernel
theorem dX1_matchSameDay_70 : decode cX1_matchSameDay 70 = .ok (.invokestatic 91, 3) := by decide +kernel
theorem dX1_matchSameDay_73 : decode cX1_matchSameDay 73 = .ok (.istore 4, 2) := by decide +kernel
theorem dX1_matchSameDay_75 : decode cX1_matchSameDay 75 = .ok (.aload_n 0, 1) := by decide +kernel
theorem dX1_matchSameDay_76 : decode cX1_matchSameDay 76 = .ok (.getfield 28, 3) := by decide +kernel
theorem dX1_matchSameDay_79 : decode cX1_matchSameDay 79 = .ok (.iconst 0, 1) := by decide +kernel
theorem dX1_matchSameDay_80 : decode cX1_matchSameDay 80 = .ok (.aload_n 0, 1) := by decide +kernel
theorem dX1_matchSameDay_81 : decode cX1_matchSameDay 81 = .ok (.getfield 21, 3) := by decide +kernel
theorem dX1_matchSameDay_84 : decode cX1_matchSameDay 84 = .ok (.getfield 98, 3) := by decide +kernel
theorem dX1_matchSameDay_87 : decode cX1_matchSameDay 87 = .ok (.iload_n 1, 1) := by decide +kernel
theorem dX1_matchSameDay_88 : decode cX1_matchSameDay 88 = .ok (.iaload, 1) := by decide +kernel
theorem dX1_matchSameDay_89 : decode cX1_matchSameDay 89 = .ok (.aload_n 0, 1) := by decide +kernel
theorem dX1_matchSameDay_90 : decode cX1_matchSameDay 90 = .ok (.getfield 21, 3) := by decide +kernel
theorem dX1_matchSameDay_93 : decode cX1_matchSameDay 93 = .ok (.getfield 98, 3) := by decide +kernel
theorem dX1_matchSameDay_96 : decode cX1_matchSameDay 96 = .ok (.iload_n 1, 1) := by decide +kernel
theorem dX1_matchSameDay_97 : decode cX1_matchSameDay 97 = .ok (.iaload, 1) := by decide +kernel
theorem dX1_matchSameDay_98 : decode cX1_matchSameDay 98 = .ok (.iload_n 2, 1) := by decide +kernel
theorem dX1_matchSameDay_99 : decode cX1_matchSameDay 99 = .ok (.iload_n 3, 1) := by decide +kernel
theorem dX1_matchSameDay_100 : decode cX1_matchSameDay 100 = .ok (.iload 4, 2) := by decide +kernel
theorem dX1_matchSameDay_102 : decode cX1_matchSameDay 102 = .ok (.invokevirtual 99, 3) := by decide +kernel
theorem dX1_matchSameDay_105 : decode cX1_matchSameDay 105 = .ok (.return_, 1) := by decide +kernel
set_option maxRecDepth 20000 in
theorem ggX1_matchLaterDays_X1_takeBought : GoodIn wsX1_matchLaterDays wsX1_takeBought := goodIn_r _ [11, 1, 12, 13, 14, 31, 32, 33, 34, 35, 36, 37, 38, 39, 40, 41, 42, 43, 44] (by decide +kernel) (by decide +kernel)
set_option maxRecDepth 20000 in
theorem gX1_matchLaterDays_X1_takeBought : GoodIn wsX1_matchLaterDays (wsV RX1 109 RX1 yX1_takeBought wsX1_takeBought) := goodIn_app (goodIn_of _ (by decide +kernel)) ggX1_matchLaterDays_X1_takeBought
set_option maxRecDepth 20000 in
theorem ggX1_matchLaterDays_X1_takeSold : GoodIn wsX1_matchLaterDays wsX1_takeSold := goodIn_r _ [18, 1, 12, 13, 14, 31, 32, 33, 34, 35, 36, 37, 38, 39, 40, 41, 42, 43, 44] (by decide +kernel) (by decide +kernel)
set_option maxRecDepth 20000 in
theorem gX1_matchLaterDays_X1_takeSold : GoodIn wsX1_matchLaterDays (wsV RX1 112 RX1 yX1_takeSold wsX1_takeSold) := goodIn_app (goodIn_of _ (by decide +kernel)) ggX1_matchLaterDays_X1_takeSold
set_option maxRecDepth 20000 in
theorem ggX1_matchLaterDays_X2_add : GoodIn wsX1_matchLaterDays wsX2_add := goodIn_r _ [23, 24, 25, 26, 27, 28, 29, 30, 45, 46, 47, 48, 49, 50, 51] (by decide +kernel) (by decide +kernel)
set_option maxRecDepth 20000 in
theorem gX1_matchLaterDays_X2_add : GoodIn wsX1_matchLaterDays (wsV RX1 99 RX2 yX2_add wsX2_add) := goodIn_app (goodIn_of _ (by decide +kernel)) ggX1_matchLaterDays_X2_add
theorem dX1_matchLaterDays_0 : decode cX1_matchLaterDays 0 = .ok (.aload_n 0, 1) := by decide +kernel
theorem dX1_matchLaterDays_1 : decode cX1_matchLaterDays 1 = .ok (.getfield 21, 3) := by decide +kernel
theorem dX1_matchLaterDays_4 : decode cX1_matchLaterDays 4 = .ok (.getfield 98, 3) := by decide +kernel
theorem dX1_matchLaterDays_7 : decode cX1_matchLaterDays 7 = .ok (.iload_n 1, 1) := by decide +kernel
theorem dX1_matchLaterDays_8 : decode cX1_matchLaterDays 8 = .ok (.iaload, 1) := by decide +kernel
theorem dX1_matchLaterDays_9 : decode cX1_matchLaterDays 9 = .ok (.iload_n 2, 1) := by decide +kernel
theorem dX1_matchLaterDays_10 : decode cX1_matchLaterDays 10 = .ok (.iadd, 1) := by decide +kernel
theorem dX1_matchLaterDays_11 : decode cX1_matchLaterDays 11 = .ok (.istore_n 3, 1) := by decide +kernel
theorem dX1_matchLaterDays_12 : decode cX1_matchLaterDays 12 = .ok (.iload_n 1, 1) := by decide +kernel
theorem dX1_matchLaterDays_13 : decode cX1_matchLaterDays 13 = .ok (.iconst 1, 1) := by decide +kernel
theorem dX1_matchLaterDays_14 : decode cX1_matchLaterDays 14 = .ok (.iadd, 1) := by decide +kernel
theorem dX1_matchLaterDays_15 : decode cX1_matchLaterDays 15 = .ok (.istore 4, 2) := by decide +kernel
theorem dX1_matchLaterDays_17 : decode cX1_matchLaterDays 17 = .ok (.iload 4, 2) := by decide +kernel
theorem dX1_matchLaterDays_19 : decode cX1_matchLaterDays 19 = .ok (.aload_n 0, 1) := by decide +kernel
theorem dX1_matchLaterDays_20 : decode cX1_matchLaterDays 20 = .ok (.getfield 21, 3) := by decide +kernel
theorem dX1_matchLaterDays_23 : decode cX1_matchLaterDays 23 = .ok (.getfield 43, 3) := by decide +kernel
theorem dX1_matchLaterDays_26 : decode cX1_matchLaterDays 26 = .ok (.if_icmp .ge 129, 3) := by decide +kernel
theorem dX1_matchLaterDays_29 : decode cX1_matchLaterDays 29 = .ok (.aload_n 0, 1) := by decide +kernel
theorem dX1_matchLaterDays_30 : decode cX1_matchLaterDays 30 = .ok (.getfield 21, 3) := by decide +kernel
theorem dX1_matchLaterDays_33 : decode cX1_matchLaterDays 33 = .ok (.getfield 98, 3) := by decide +kernel
theorem dX1_matchLaterDays_36 : decode cX1_matchLaterDays 36 = .ok (.iload 4, 2) := by decide +kernel
theorem dX1_matchLaterDays_38 : decode cX1_matchLaterDays 38 = .ok (.iaload, 1) := by decide +kernel
theorem dX1_matchLaterDays_39 : decode cX1_matchLaterDays 39 = .ok (.iload_n 3, 1) := by decide +kernel
theorem dX1_matchLaterDays_40 : decode cX1_matchLaterDays 40 = .ok (.if_icmp .gt 115, 3) := by decide +kernel
theorem dX1_matchLaterDays_43 : decode cX1_matchLaterDays 43 = .ok (.aload_n 0, 1) := by decide +kernel
theorem dX1_matchLaterDays_44 : decode cX1_matchLaterDays 44 = .ok (.getfield 21, 3) := by decide +kernel
theorem dX1_matchLaterDays_47 : decode cX1_matchLaterDays 47 = .ok (.getfield 77, 3) := by decide +kernel
theorem dX1_matchLaterDays_50 : decode cX1_matchLaterDays 50 = .ok (.iload 4, 2) := by decide +kernel
theorem dX1_matchLaterDays_52 : decode cX1_matchLaterDays 52 = .ok (.iaload, 1) := by decide +kernel
theorem dX1_matchLaterDays_53 : decode cX1_matchLaterDays 53 = .ok (.aload_n 0, 1) := by decide +kernel
theorem dX1_matchLaterDays_54 : decode cX1_matchLaterDays 54 = .ok (.getfield 21, 3) := by decide +kernel
theorem dX1_matchLaterDays_57 : decode cX1_matchLaterDays 57 = .ok (.getfield 103, 3) := by decide +kernel
theorem dX1_matchLaterDays_60 : decode cX1_matchLaterDays 60 = .ok (.iload 4, 2) := by decide +kernel
theorem dX1_matchLaterDays_62 : decode cX1_matchLaterDays 62 = .ok (.iaload, 1) := by decide +kernel
theorem dX1_matchLaterDays_63 : decode cX1_matchLaterDays 63 = .ok (.isub, 1) := by decide +kernel
theorem dX1_matchLaterDays_64 : decode cX1_matchLaterDays 64 = .ok (.istore 5, 2) := by decide +kernel
theorem dX1_matchLaterDays_66 : decode cX1_matchLaterDays 66 = .ok (.iload 5, 2) := by decide +kernel
theorem dX1_matchLaterDays_68 : decode cX1_matchLaterDays 68 = .ok (.aload_n 0, 1) := by decide +kernel
theorem dX1_matchLaterDays_69 : decode cX1_matchLaterDays 69 = .ok (.getfield 21, 3) := by decide +kernel
theorem dX1_matchLaterDays_72 : decode cX1_matchLaterDays 72 = .ok (.getfield 80, 3) := by decide +kernel
theorem dX1_matchLaterDays_75 : decode cX1_matchLaterDays 75 = .ok (.iload_n 1, 1) := by decide +kernel
theorem dX1_matchLaterDays_76 : decode cX1_matchLaterDays 76 = .ok (.iaload, 1) := by decide +kernel
theorem dX1_matchLaterDays_77 : decode cX1_matchLaterDays 77 = .ok (.aload_n 0, 1) := by decide +kernel
theorem dX1_matchLaterDays_78 : decode cX1_matchLaterDays 78 = .ok (.getfield 21, 3) := by decide +kernel
theorem dX1_matchLaterDays_81 : decode cX1_matchLaterDays 81 = .ok (.getfield 106, 3) := by decide +kernel
theorem dX1_matchLaterDays_84 : decode cX1_matchLaterDays 84 = .ok (.iload_n 1, 1) := by decide +kernel
theorem dX1_matchLaterDays_85 : decode cX1_matchLaterDays 85 = .ok (.iaload, 1) := by decide +kernel
theorem dX1_matchLaterDays_86 : decode cX1_matchLaterDays 86 = .ok (.isub, 1) := by decide +kernel
theorem dX1_matchLaterDays_87 : decode cX1_matchLaterDays 87 = .ok (.invokestatic 83, 3) := by decide +kernel
theorem dX1_matchLaterDays_90 : decode cX1_matchLaterDays 90 = .ok (.istore 6, 2) := by decide +kernel
theorem dX1_matchLaterDays_92 : decode cX1_matchLaterDays 92 = .ok (.iload 6, 2) := by decide +kernel
theorem dX1_matchLaterDays_94 : decode cX1_matchLaterDays 94 = .ok (.ifCond .le 55, 3) := by decide +kernel
theorem dX1_matchLaterDays_97 : decode cX1_matchLaterDays 97 = .ok (.aload_n 0, 1) := by decide +kernel
theorem dX1_matchLaterDays_98 : decode cX1_matchLaterDays 98 = .ok (.iload 4, 2) := by decide +kernel
theorem dX1_matchLaterDays_100 : decode cX1_matchLaterDays 100 = .ok (.iload 6, 2) := by decide +kernel
theorem dX1_matchLaterDays_102 : decode cX1_matchLaterDays 102 = .ok (.invokevirtual 109, 3) := by decide +kernel
theorem dX1_matchLaterDays_105 : decode cX1_matchLaterDays 105 = .ok (.istore 7, 2) := by decide +kernel
theorem dX1_matchLaterDays_107 : decode cX1_matchLaterDays 107 = .ok (.aload_n 0, 1) := by decide +kernel
theorem dX1_matchLaterDays_108 : decode cX1_matchLaterDays 108 = .ok (.iload_n 1, 1) := by decide +kernel
theorem dX1_matchLaterDays_109 : decode cX1_matchLaterDays 109 = .ok (.iload 6, 2) := by decide +kernel
theorem dX1_matchLaterDays_111 : decode cX1_matchLaterDays 111 = .ok (.invokevirtual 112, 3) := by decide +kernel
theorem dX1_matchLaterDays_114 : decode cX1_matchLaterDays 114 = .ok (.istore 8, 2) := by decide +kernel
theorem dX1_matchLaterDays_116 : decode cX1_matchLaterDays 116 = .ok (.aload_n 0, 1) := by decide +kernel
theorem dX1_matchLaterDays_117 : decode cX1_matchLaterDays 117 = .ok (.getfield 28, 3) := by decide +kernel
theorem dX1_matchLaterDays_120 : decode cX1_matchLaterDays 120 = .ok (.iconst 1, 1) := by decide +kernel
theorem dX1_matchLaterDays_121 : decode cX1_matchLaterDays 121 = .ok (.aload_n 0, 1) := by decide +kernel
theorem dX1_matchLaterDays_122 : decode cX1_matchLaterDays 122 = .ok (.getfield 21, 3) := by decide +kernel
theorem dX1_matchLaterDays_125 : decode cX1_matchLaterDays 125 = .ok (.getfield 98, 3) := by decide +kernel
theorem dX1_matchLaterDays_128 : decode cX1_matchLaterDays 128 = .ok (.iload_n 1, 1) := by decide +kernel
theorem dX1_matchLaterDays_129 : decode cX1_matchLaterDays 129 = .ok (.iaload, 1) := by decide +kernel
theorem dX1_matchLaterDays_130 : decode cX1_matchLaterDays 130 = .ok (.aload_n 0, 1) := by decide +kernel
theorem dX1_matchLaterDays_131 : decode cX1_matchLaterDays 131 = .ok (.getfield 21, 3) := by decide +kernel
theorem dX1_matchLaterDays_134 : decode cX1_matchLaterDays 134 = .ok (.getfield 98, 3) := by decide +kernel
theorem dX1_matchLaterDays_137 : decode cX1_matchLaterDays 137 = .ok (.iload 4, 2) := by decide +kernel
theorem dX1_matchLaterDays_139 : decode cX1_matchLaterDays 139 = .ok (.iaload, 1) := by decide +kernel
theorem dX1_matchLaterDays_140 : decode cX1_matchLaterDays 140 = .ok (.iload 6, 2) := by decide +kernel
theorem dX1_matchLaterDays_142 : decode cX1_matchLaterDays 142 = .ok (.iload 7, 2) := by decide +kernel
theorem dX1_matchLaterDays_144 : decode cX1_matchLaterDays 144 = .ok (.iload 8, 2) := by decide +kernel
theorem dX1_matchLaterDays_146 : decode cX1_matchLaterDays 146 = .ok (.invokevirtual 99, 3) := by decide +kernel
theorem dX1_matchLaterDays_149 : decode cX1_matchLaterDays 149 = .ok (.iinc 4 1, 3) := by decide +kernel
theorem dX1_matchLaterDays_152 : decode cX1_matchLaterDays 152 = .ok (.goto (-135), 3) := by decide +kernel
theorem dX1_matchLaterDays_155 : decode cX1_matchLaterDays 155 = .ok (.return_, 1) := by decide +kernel
set_option maxRecDepth 20000 in
theorem ggX1_pool_X1_takeBought : GoodIn wsX1_pool wsX1_takeBought := goodIn_r _ [7, 1, 8, 9, 10, 27, 28, 29, 30, 31, 32, 33, 34, 35, 36, 37, 38, 39, 40] (by decide +kernel) (by decide +kernel)
set_option maxRecDepth 20000 in
theorem gX1_pool_X1_takeBought : GoodIn wsX1_pool (wsV RX1 109 RX1 yX1_takeBought wsX1_takeBought) := goodIn_app (goodIn_of _ (by decide +kernel)) ggX1_pool_X1_takeBought
set_option maxRecDepth 20000 in
theorem ggX1_pool_X5_part : GoodIn wsX1_pool wsX5_part := goodIn_r _ [10] (by decide +kernel) (by decide +kernel)
set_option maxRecDepth 20000 in
theorem gX1_pool_X5_part_n91 : GoodIn wsX1_pool (wsX5_part) := ggX1_pool_X5_part
set_option maxRecDepth 20000 in
theorem ggX1_pool_X1_takeSold : GoodIn wsX1_pool wsX1_takeSold := goodIn_r _ [14, 1, 8, 9, 10, 27, 28, 29, 30, 31, 32, 33, 34, 35, 36, 37, 38, 39, 40] (by decide +kernel) (by decide +kernel)
set_option maxRecDepth 20000 in
theorem gX1_pool_X1_takeSold : GoodIn wsX1_pool (wsV RX1 112 RX1 yX1_takeSold wsX1_takeSold) := goodIn_app (goodIn_of _ (by decide +kernel)) ggX1_pool_X1_takeSold
set_option maxRecDepth 20000 in
theorem ggX1_pool_X2_add : GoodIn wsX1_pool wsX2_add := goodIn_r _ [19, 20, 21, 22, 23, 24, 25, 26, 41, 42, 43, 44, 45, 46, 47] (by decide +kernel) (by decide +kernel)
set_option maxRecDepth 20000 in
theorem gX1_pool_X2_add : GoodIn wsX1_pool (wsV RX1 99 RX2 yX2_add wsX2_add) := goodIn_app (goodIn_of _ (by decide +kernel)) ggX1_pool_X2_add
theorem dX1_pool_0 : decode cX1_pool 0 = .ok (.iload_n 1, 1) := by decide +kernel
theorem dX1_pool_1 : decode cX1_pool 1 = .ok (.ifCond .le 17, 3) := by decide +kernel
theorem dX1_pool_4 : decode cX1_pool 4 = .ok (.aload_n 0, 1) := by decide +kernel
theorem dX1_pool_5 : decode cX1_pool 5 = .ok (.getfield 21, 3) := by decide +kernel
theorem dX1_pool_8 : decode cX1_pool 8 = .ok (.getfield 115, 3) := by decide +kernel
theorem dX1_pool_11 : decode cX1_pool 11 = .ok (.iload_n 1, 1) := by decide +kernel
theorem dX1_pool_12 : decode cX1_pool 12 = .ok (.iconst 1, 1) := by decide +kernel
theorem dX1_pool_13 : decode cX1_pool 13 = .ok (.isub, 1) := by decide +kernel
theorem dX1_pool_14 : decode cX1_pool 14 = .ok (.iaload, 1) := by decide +kernel
theorem dX1_pool_15 : decode cX1_pool 15 = .ok (.goto 4, 3) := by decide +kernel
theorem dX1_pool_18 : decode cX1_pool 18 = .ok (.iconst 0, 1) := by decide +kernel
theorem dX1_pool_19 : decode cX1_pool 19 = .ok (.istore_n 2, 1) := by decide +kernel
theorem dX1_pool_20 : decode cX1_pool 20 = .ok (.iload_n 1, 1) := by decide +kernel
theorem dX1_pool_21 : decode cX1_pool 21 = .ok (.ifCond .le 17, 3) := by decide +kernel
theorem dX1_pool_24 : decode cX1_pool 24 = .ok (.aload_n 0, 1) := by decide +kernel
theorem dX1_pool_25 : decode cX1_pool 25 = .ok (.getfield 21, 3) := by decide +kernel
theorem dX1_pool_28 : decode cX1_pool 28 = .ok (.getfield 118, 3) := by decide +kernel
theorem dX1_pool_31 : decode cX1_pool 31 = .ok (.iload_n 1, 1) := by decide +kernel
theorem dX1_pool_32 : decode cX1_pool 32 = .ok (.iconst 1, 1) := by decide +kernel
theorem dX1_pool_33 : decode cX1_pool 33 = .ok (.isub, 1) := by decide +kernel
theorem dX1_pool_34 : decode cX1_pool 34 = .ok (.iaload, 1) := by decide +kernel
theorem dX1_pool_35 : decode cX1_pool 35 = .ok (.goto 4, 3) := by decide +kernel
theorem dX1_pool_38 : decode cX1_pool 38 = .ok (.iconst 0, 1) := by decide +kernel
theorem dX1_pool_39 : decode cX1_pool 39 = .ok (.istore_n 3, 1) := by decide +kernel
theorem dX1_pool_40 : decode cX1_pool 40 = .ok (.aload_n 0, 1) := by decide +kernel
theorem dX1_pool_41 : decode cX1_pool 41 = .ok (.getfield 21, 3) := by decide +kernel
theorem dX1_pool_44 : decode cX1_pool 44 = .ok (.getfield 77, 3) := by decide +kernel
theorem dX1_pool_47 : decode cX1_pool 47 = .ok (.iload_n 1, 1) := by decide +kernel
theorem dX1_pool_48 : decode cX1_pool 48 = .ok (.iaload, 1) := by decide +kernel
theorem dX1_pool_49 : decode cX1_pool 49 = .ok (.aload_n 0, 1) := by decide +kernel
theorem dX1_pool_50 : decode cX1_pool 50 = .ok (.getfield 21, 3) := by decide +kernel
theorem dX1_pool_53 : decode cX1_pool 53 = .ok (.getfield 103, 3) := by decide +kernel
theorem dX1_pool_56 : decode cX1_pool 56 = .ok (.iload_n 1, 1) := by decide +kernel
theorem dX1_pool_57 : decode cX1_pool 57 = .ok (.iaload, 1) := by decide +kernel
theorem dX1_pool_58 : decode cX1_pool 58 = .ok (.isub, 1) := by decide +kernel
theorem dX1_pool_59 : decode cX1_pool 59 = .ok (.istore 4, 2) := by decide +kernel
theorem dX1_pool_61 : decode cX1_pool 61 = .ok (.iload_n 2, 1) := by decide +kernel
theorem dX1_pool_62 : decode cX1_pool 62 = .ok (.iload 4, 2) := by decide +kernel
theorem dX1_pool_64 : decode cX1_pool 64 = .ok (.iadd, 1) := by decide +kernel
theorem dX1_pool_65 : decode cX1_pool 65 = .ok (.istore_n 2, 1) := by decide +kernel
theorem dX1_pool_66 : decode cX1_pool 66 = .ok (.iload_n 3, 1) := by decide +kernel
theorem dX1_pool_67 : decode cX1_pool 67 = .ok (.aload_n 0, 1) := by decide +kernel
theorem dX1_pool_68 : decode cX1_pool 68 = .ok (.iload_n 1, 1) := by decide +kernel
theorem dX1_pool_69 : decode cX1_pool 69 = .ok (.iload 4, 2) := by decide +kernel
theorem dX1_pool_71 : decode cX1_pool 71 = .ok (.invokevirtual 109, 3) := by decide +kernel
theorem dX1_pool_74 : decode cX1_pool 74 = .ok (.iadd, 1) := by decide +kernel
theorem dX1_pool_75 : decode cX1_pool 75 = .ok (.istore_n 3, 1) := by decide +kernel
theorem dX1_pool_76 : decode cX1_pool 76 = .ok (.aload_n 0, 1) := by decide +kernel
theorem dX1_pool_77 : decode cX1_pool 77 = .ok (.getfield 21, 3) := by decide +kernel
theorem dX1_pool_80 : decode cX1_pool 80 = .ok (.getfield 80, 3) := by decide +kernel
theorem dX1_pool_83 : decode cX1_pool 83 = .ok (.iload_n 1, 1) := by decide +kernel
theorem dX1_pool_84 : decode cX1_pool 84 = .ok (.iaload, 1) := by decide +kernel
theorem dX1_pool_85 : decode cX1_pool 85 = .ok (.aload_n 0, 1) := by decide +kernel
theorem dX1_pool_86 : decode cX1_pool 86 = .ok (.getfield 21, 3) := by decide +kernel
theorem dX1_pool_89 : decode cX1_pool 89 = .ok (.getfield 106, 3) := by decide +kernel
theorem dX1_pool_92 : decode cX1_pool 92 = .ok (.iload_n 1, 1) := by decide +kernel
theorem dX1_pool_93 : decode cX1_pool 93 = .ok (.iaload, 1) := by decide +kernel
theorem dX1_pool_94 : decode cX1_pool 94 = .ok (.isub, 1) := by decide +kernel
theorem dX1_pool_95 : decode cX1_pool 95 = .ok (.istore 5, 2) := by decide +kernel
theorem dX1_pool_97 : decode cX1_pool 97 = .ok (.iload 5, 2) := by decide +kernel
theorem dX1_pool_99 : decode cX1_pool 99 = .ok (.ifCond .le 52, 3) := by decide +kernel
theorem dX1_pool_102 : decode cX1_pool 102 = .ok (.iload_n 3, 1) := by decide +kernel
theorem dX1_pool_103 : decode cX1_pool 103 = .ok (.iconst 0, 1) := by decide +kernel
theorem dX1_pool_104 : decode cX1_pool 104 = .ok (.iload 5, 2) := by decide +kernel
theorem dX1_pool_106 : decode cX1_pool 106 = .ok (.iload_n 2, 1) := by decide +kernel
theorem dX1_pool_107 : decode cX1_pool 107 = .ok (.invokestatic 91, 3) := by decide +kernel
theorem dX1_pool_110 : decode cX1_pool 110 = .ok (.istore 6, 2) := by decide +kernel
theorem dX1_pool_112 : decode cX1_pool 112 = .ok (.iload_n 2, 1) := by decide +kernel
theorem dX1_pool_113 : decode cX1_pool 113 = .ok (.iload 5, 2) := by decide +kernel
theorem dX1_pool_115 : decode cX1_pool 115 = .ok (.isub, 1) := by decide +kernel
theorem dX1_pool_116 : decode cX1_pool 116 = .ok (.istore_n 2, 1) := by decide +kernel
theorem dX1_pool_117 : decode cX1_pool 117 = .ok (.iload_n 3, 1) := by decide +kernel
theorem dX1_pool_118 : decode cX1_pool 118 = .ok (.iload 6, 2) := by decide +kernel
theorem dX1_pool_120 : decode cX1_pool 120 = .ok (.isub, 1) := by decide +kernel
theorem dX1_pool_121 : decode cX1_pool 121 = .ok (.istore_n 3, 1) := by decide +kernel
theorem dX1_pool_122 : decode cX1_pool 122 = .ok (.aload_n 0, 1) := by decide +kernel
theorem dX1_pool_123 : decode cX1_pool 123 = .ok (.getfield 28, 3) := by decide +kernel
theorem dX1_pool_126 : decode cX1_pool 126 = .ok (.iconst 2, 1) := by decide +kernel
theorem dX1_pool_127 : decode cX1_pool 127 = .ok (.aload_n 0, 1) := by decide +kernel
theorem dX1_pool_128 : decode cX1_pool 128 = .ok (.getfield 21, 3) := by decide +kernel
theorem dX1_pool_131 : decode cX1_pool 131 = .ok (.getfield 98, 3) := by decide +kernel
theorem dX1_pool_134 : decode cX1_pool 134 = .ok (.iload_n 1, 1) := by decide +kernel
theorem dX1_pool_135 : decode cX1_pool 135 = .ok (.iaload, 1) := by decide +kernel
theorem dX1_pool_136 : decode cX1_pool 136 = .ok (.iconst (-1), 1) := by decide +kernel
theorem dX1_pool_137 : decode cX1_pool 137 = .ok (.iload 5, 2) := by decide +kernel
theorem dX1_pool_139 : decode cX1_pool 139 = .ok (.iload 6, 2) := by decide +kernel
theorem dX1_pool_141 : decode cX1_pool 141 = .ok (.aload_n 0, 1) := by decide +kernel
theorem dX1_pool_142 : decode cX1_pool 142 = .ok (.iload_n 1, 1) := by decide +kernel
theorem dX1_pool_143 : decode cX1_pool 143 = .ok (.iload 5, 2) := by decide +kernel
theorem dX1_pool_145 : decode cX1_pool 145 = .ok (.invokevirtual 112, 3) := by decide +kernel
theorem dX1_pool_148 : decode cX1_pool 148 = .ok (.invokevirtual 99, 3) := by decide +kernel
theorem dX1_pool_151 : decode cX1_pool 151 = .ok (.aload_n 0, 1) := by decide +kernel
theorem dX1_pool_152 : decode cX1_pool 152 = .ok (.getfield 21, 3) := by decide +kernel
theorem dX1_pool_155 : decode cX1_pool 155 = .ok (.getfield 115, 3) := by decide +kernel
theorem dX1_pool_158 : decode cX1_pool 158 = .ok (.iload_n 1, 1) := by decide +kernel
theorem dX1_pool_159 : decode cX1_pool 159 = .ok (.iload_n 2, 1) := by decide +kernel
theorem dX1_pool_160 : decode cX1_pool 160 = .ok (.iastore, 1) := by decide +kernel
theorem dX1_pool_161 : decode cX1_pool 161 = .ok (.aload_n 0, 1) := by decide +kernel
theorem dX1_pool_162 : decode cX1_pool 162 = .ok (.getfield 21, 3) := by decide +kernel
theorem dX1_pool_165 : decode cX1_pool 165 = .ok (.getfield 118, 3) := by decide +kernel
theorem dX1_pool_168 : decode cX1_pool 168 = .ok (.iload_n 1, 1) := by decide +kernel
theorem dX1_pool_169 : decode cX1_pool 169 = .ok (.iload_n 3, 1) := by decide +kernel
theorem dX1_pool_170 : decode cX1_pool 170 = .ok (.iastore, 1) := by decide +kernel
theorem dX1_pool_171 : decode cX1_pool 171 = .ok (.return_, 1) := by decide +kernel
set_option maxRecDepth 20000 in
theorem ggX1_takeBought_X5_part : GoodIn wsX1_takeBought wsX5_part := goodIn_r _ [4] (by decide +kernel) (by decide +kernel)
set_option maxRecDepth 20000 in
theorem gX1_takeBought_X5_part_n91 : GoodIn wsX1_takeBought (wsX5_part) := ggX1_takeBought_X5_part
theorem dX1_takeBought_0 : decode cX1_takeBought 0 = .ok (.aload_n 0, 1) := by decide +kernel
theorem dX1_takeBought_1 : decode cX1_takeBought 1 = .ok (.getfield 21, 3) := by decide +kernel
theorem dX1_takeBought_4 : decode cX1_takeBought 4 = .ok (.getfield 103, 3) := by decide +kernel
theorem dX1_takeBought_7 : decode cX1_takeBought 7 = .ok (.iload_n 1, 1) := by decide +kernel
theorem dX1_takeBought_8 : decode cX1_takeBought 8 = .ok (.iaload, 1) := by decide +kernel
theorem dX1_takeBought_9 : decode cX1_takeBought 9 = .ok (.istore_n 3, 1) := by decide +kernel
theorem dX1_takeBought_10 : decode cX1_takeBought 10 = .ok (.aload_n 0, 1) := by decide +kernel
theorem dX1_takeBought_11 : decode cX1_takeBought 11 = .ok (.getfield 21, 3) := by decide +kernel
theorem dX1_takeBought_14 : decode cX1_takeBought 14 = .ok (.getfield 103, 3) := by decide +kernel
theorem dX1_takeBought_17 : decode cX1_takeBought 17 = .ok (.iload_n 1, 1) := by decide +kernel
theorem dX1_takeBought_18 : decode cX1_takeBought 18 = .ok (.iload_n 3, 1) := by decide +kernel
theorem dX1_takeBought_19 : decode cX1_takeBought 19 = .ok (.iload_n 2, 1) := by decide +kernel
theorem dX1_takeBought_20 : decode cX1_takeBought 20 = .ok (.iadd, 1) := by decide +kernel
theorem dX1_takeBought_21 : decode cX1_takeBought 21 = .ok (.iastore, 1) := by decide +kernel
theorem dX1_takeBought_22 : decode cX1_takeBought 22 = .ok (.aload_n 0, 1) := by decide +kernel
theorem dX1_takeBought_23 : decode cX1_takeBought 23 = .ok (.getfield 21, 3) := by decide +kernel
theorem dX1_takeBought_26 : decode cX1_takeBought 26 = .ok (.getfield 88, 3) := by decide +kernel
theorem dX1_takeBought_29 : decode cX1_takeBought 29 = .ok (.iload_n 1, 1) := by decide +kernel
theorem dX1_takeBought_30 : decode cX1_takeBought 30 = .ok (.iaload, 1) := by decide +kernel
theorem dX1_takeBought_31 : decode cX1_takeBought 31 = .ok (.iload_n 3, 1) := by decide +kernel
theorem dX1_takeBought_32 : decode cX1_takeBought 32 = .ok (.iload_n 3, 1) := by decide +kernel
theorem dX1_takeBought_33 : decode cX1_takeBought 33 = .ok (.iload_n 2, 1) := by decide +kernel
theorem dX1_takeBought_34 : decode cX1_takeBought 34 = .ok (.iadd, 1) := by decide +kernel
theorem dX1_takeBought_35 : decode cX1_takeBought 35 = .ok (.aload_n 0, 1) := by decide +kernel
theorem dX1_takeBought_36 : decode cX1_takeBought 36 = .ok (.getfield 21, 3) := by decide +kernel
theorem dX1_takeBought_39 : decode cX1_takeBought 39 = .ok (.getfield 77, 3) := by decide +kernel
theorem dX1_takeBought_42 : decode cX1_takeBought 42 = .ok (.iload_n 1, 1) := by decide +kernel
theorem dX1_takeBought_43 : decode cX1_takeBought 43 = .ok (.iaload, 1) := by decide +kernel
theorem dX1_takeBought_44 : decode cX1_takeBought 44 = .ok (.invokestatic 91, 3) := by decide +kernel
theorem dX1_takeBought_47 : decode cX1_takeBought 47 = .ok (.ireturn, 1) := by decide +kernel
set_option maxRecDepth 20000 in
theorem ggX1_takeSold_X5_part : GoodIn wsX1_takeSold wsX5_part := goodIn_r _ [4] (by decide +kernel) (by decide +kernel)
set_option maxRecDepth 20000 in
theorem gX1_takeSold_X5_part_n91 : GoodIn wsX1_takeSold (wsX5_part) := ggX1_takeSold_X5_part
theorem dX1_takeSold_0 : decode cX1_takeSold 0 = .ok (.aload_n 0, 1) := by decide +kernel
theorem dX1_takeSold_1 : decode cX1_takeSold 1 = .ok (.getfield 21, 3) := by decide +kernel
theorem dX1_takeSold_4 : decode cX1_takeSold 4 = .ok (.getfield 106, 3) := by decide +kernel
theorem dX1_takeSold_7 : decode cX1_takeSold 7 = .ok (.iload_n 1, 1) := by decide +kernel
theorem dX1_takeSold_8 : decode cX1_takeSold 8 = .ok (.iaload, 1) := by decide +kernel
theorem dX1_takeSold_9 : decode cX1_takeSold 9 = .ok (.istore_n 3, 1) := by decide +kernel
theorem dX1_takeSold_10 : decode cX1_takeSold 10 = .ok (.aload_n 0, 1) := by decide +kernel
theorem dX1_takeSold_11 : decode cX1_takeSold 11 = .ok (.getfield 21, 3) := by decide +kernel
theorem dX1_takeSold_14 : decode cX1_takeSold 14 = .ok (.getfield 106, 3) := by decide +kernel
theorem dX1_takeSold_17 : decode cX1_takeSold 17 = .ok (.iload_n 1, 1) := by decide +kernel
theorem dX1_takeSold_18 : decode cX1_takeSold 18 = .ok (.iload_n 3, 1) := by decide +kernel
theorem dX1_takeSold_19 : decode cX1_takeSold 19 = .ok (.iload_n 2, 1) := by decide +kernel
theorem dX1_takeSold_20 : decode cX1_takeSold 20 = .ok (.iadd, 1) := by decide +kernel
theorem dX1_takeSold_21 : decode cX1_takeSold 21 = .ok (.iastore, 1) := by decide +kernel
theorem dX1_takeSold_22 : decode cX1_takeSold 22 = .ok (.aload_n 0, 1) := by decide +kernel
theorem dX1_takeSold_23 : decode cX1_takeSold 23 = .ok (.getfield 21, 3) := by decide +kernel
theorem dX1_takeSold_26 : decode cX1_takeSold 26 = .ok (.getfield 95, 3) := by decide +kernel
theorem dX1_takeSold_29 : decode cX1_takeSold 29 = .ok (.iload_n 1, 1) := by decide +kernel
theorem dX1_takeSold_30 : decode cX1_takeSold 30 = .ok (.iaload, 1) := by decide +kernel
theorem dX1_takeSold_31 : decode cX1_takeSold 31 = .ok (.iload_n 3, 1) := by decide +kernel
theorem dX1_takeSold_32 : decode cX1_takeSold 32 = .ok (.iload_n 3, 1) := by decide +kernel
theorem dX1_takeSold_33 : decode cX1_takeSold 33 = .ok (.iload_n 2, 1) := by decide +kernel
theorem dX1_takeSold_34 : decode cX1_takeSold 34 = .ok (.iadd, 1) := by decide +kernel
theorem dX1_takeSold_35 : decode cX1_takeSold 35 = .ok (.aload_n 0, 1) := by decide +kernel
theorem dX1_takeSold_36 : decode cX1_takeSold 36 = .ok (.getfield 21, 3) := by decide +kernel
theorem dX1_takeSold_39 : decode cX1_takeSold 39 = .ok (.getfield 80, 3) := by decide +kernel
theorem dX1_takeSold_42 : decode cX1_takeSold 42 = .ok (.iload_n 1, 1) := by decide +kernel
theorem dX1_takeSold_43 : decode cX1_takeSold 43 = .ok (.iaload, 1) := by decide +kernel
theorem dX1_takeSold_44 : decode cX1_takeSold 44 = .ok (.invokestatic 91, 3) := by decide +kernel
theorem dX1_takeSold_47 : decode cX1_takeSold 47 = .ok (.ireturn, 1) := by decide +kernel
theorem dX2_init_0 : decode cX2_init 0 = .ok (.aload_n 0, 1) := by decide +kernel
theorem dX2_init_1 : decode cX2_init 1 = .ok (.invokespecial 3, 3) := by decide +kernel
theorem dX2_init_4 : decode cX2_init 4 = .ok (.aload_n 0, 1) := by decide +kernel
theorem dX2_init_5 : decode cX2_init 5 = .ok (.bipush 60, 2) := by decide +kernel
theorem dX2_init_7 : decode cX2_init 7 = .ok (.newarray .int, 2) := by decide +kernel
theorem dX2_init_9 : decode cX2_init 9 = .ok (.putfield 9, 3) := by decide +kernel
theorem dX2_init_12 : decode cX2_init 12 = .ok (.aload_n 0, 1) := by decide +kernel
theorem dX2_init_13 : decode cX2_init 13 = .ok (.bipush 60, 2) := by decide +kernel
theorem dX2_init_15 : decode cX2_init 15 = .ok (.newarray .int, 2) := by decide +kernel
theorem dX2_init_17 : decode cX2_init 17 = .ok (.putfield 15, 3) := by decide +kernel
theorem dX2_init_20 : decode cX2_init 20 = .ok (.aload_n 0, 1) := by decide +kernel
theorem dX2_init_21 : decode cX2_init 21 = .ok (.bipush 60, 2) := by decide +kernel
theorem dX2_init_23 : decode cX2_init 23 = .ok (.newarray .int, 2) := by decide +kernel
theorem dX2_init_25 : decode cX2_init 25 = .ok (.putfield 18, 3) := by decide +kernel
theorem dX2_init_28 : decode cX2_init 28 = .ok (.aload_n 0, 1) := by decide +kernel
theorem dX2_init_29 : decode cX2_init 29 = .ok (.bipush 60, 2) := by decide +kernel
theorem dX2_init_31 : decode cX2_init 31 = .ok (.newarray .int, 2) := by decide +kernel
theorem dX2_init_33 : decode cX2_init 33 = .ok (.putfield 21, 3) := by decide +kernel
theorem dX2_init_36 : decode cX2_init 36 = .ok (.aload_n 0, 1) := by decide +kernel
theorem dX2_init_37 : decode cX2_init 37 = .ok (.bipush 60, 2) := by decide +kernel
theorem dX2_init_39 : decode cX2_init 39 = .ok (.newarray .int, 2) := by decide +kernel
theorem dX2_init_41 : decode cX2_init 41 = .ok (.putfield 24, 3) := by decide +kernel
theorem dX2_init_44 : decode cX2_init 44 = .ok (.aload_n 0, 1) := by decide +kernel
theorem dX2_init_45 : decode cX2_init 45 = .ok (.bipush 60, 2) := by decide +kernel
theorem dX2_init_47 : decode cX2_init 47 = .ok (.newarray .int, 2) := by decide +kernel
theorem dX2_init_49 : decode cX2_init 49 = .ok (.putfield 27, 3) := by decide +kernel
theorem dX2_init_52 : decode cX2_init 52 = .ok (.aload_n 0, 1) := by decide +kernel
theorem dX2_init_53 : decode cX2_init 53 = .ok (.iconst 0, 1) := by decide +kernel
theorem dX2_init_54 : decode cX2_init 54 = .ok (.putfield 30, 3) := by decide +kernel
theorem dX2_init_57 : decode cX2_init 57 = .ok (.return_, 1) := by decide +kernel
theorem dX2_add_0 : decode cX2_add 0 = .ok (.aload_n 0, 1) := by decide +kernel
theorem dX2_add_1 : decode cX2_add 1 = .ok (.getfield 30, 3) := by decide +kernel
theorem dX2_add_4 : decode cX2_add 4 = .ok (.bipush 60, 2) := by decide +kernel
theorem dX2_add_6 : decode cX2_add 6 = .ok (.if_icmp .lt 4, 3) := by decide +kernel
theorem dX2_add_9 : decode cX2_add 9 = .ok (.return_, 1) := by decide +kernel
theorem dX2_add_10 : decode cX2_add 10 = .ok (.aload_n 0, 1) := by decide +kernel
theorem dX2_add_11 : decode cX2_add 11 = .ok (.getfield 9, 3) := by decide +kernel
theorem dX2_add_14 : decode cX2_add 14 = .ok (.aload_n 0, 1) := by decide +kernel
theorem dX2_add_15 : decode cX2_add 15 = .ok (.getfield 30, 3) := by decide +kernel
theorem dX2_add_18 : decode cX2_add 18 = .ok (.iload_n 1, 1) := by decide +kernel
theorem dX2_add_19 : decode cX2_add 19 = .ok (.iastore, 1) := by decide +kernel
theorem dX2_add_20 : decode cX2_add 20 = .ok (.aload_n 0, 1) := by decide +kernel
theorem dX2_add_21 : decode cX2_add 21 = .ok (.getfield 15, 3) := by decide +kernel
theorem dX2_add_24 : decode cX2_add 24 = .ok (.aload_n 0, 1) := by decide +kernel
theorem dX2_add_25 : decode cX2_add 25 = .ok (.getfield 30, 3) := by decide +kernel
theorem dX2_add_28 : decode cX2_add 28 = .ok (.iload_n 2, 1) := by decide +kernel
theorem dX2_add_29 : decode cX2_add 29 = .ok (.iastore, 1) := by decide +kernel
theorem dX2_add_30 : decode cX2_add 30 = .ok (.aload_n 0, 1) := by decide +kernel
theorem dX2_add_31 : decode cX2_add 31 = .ok (.getfield 18, 3) := by decide +kernel
theorem dX2_add_34 : decode cX2_add 34 = .ok (.aload_n 0, 1) := by decide +kernel
theorem dX2_add_35 : decode cX2_add 35 = .ok (.getfield 30, 3) := by decide +kernel
theorem dX2_add_38 : decode cX2_add 38 = .ok (.iload_n 3, 1) := by decide +kernel
theorem dX2_add_39 : decode cX2_add 39 = .ok (.iastore, 1) := by decide +kernel
theorem dX2_add_40 : decode cX2_add 40 = .ok (.aload_n 0, 1) := by decide +kernel
theorem dX2_add_41 : decode cX2_add 41 = .ok (.getfield 21, 3) := by decide +kernel
theorem dX2_add_44 : decode cX2_add 44 = .ok (.aload_n 0, 1) := by decide +kernel
theorem dX2_add_45 : decode cX2_add 45 = .ok (.getfield 30, 3) := by decide +kernel
theorem dX2_add_48 : decode cX2_add 48 = .ok (.iload 4, 2) := by decide +kernel
theorem dX2_add_50 : decode cX2_add 50 = .ok (.iastore, 1) := by decide +kernel
theorem dX2_add_51 : decode cX2_add 51 = .ok (.aload_n 0, 1) := by decide +kernel
theorem dX2_add_52 : decode cX2_add 52 = .ok (.getfield 24, 3) := by decide +kernel
theorem dX2_add_55 : decode cX2_add 55 = .ok (.aload_n 0, 1) := by decide +kernel
theorem dX2_add_56 : decode cX2_add 56 = .ok (.getfield 30, 3) := by decide +kernel
theorem dX2_add_59 : decode cX2_add 59 = .ok (.iload 5, 2) := by decide +kernel
theorem dX2_add_61 : decode cX2_add 61 = .ok (.iastore, 1) := by decide +kernel
theorem dX2_add_62 : decode cX2_add 62 = .ok (.aload_n 0, 1) := by decide +kernel
theorem dX2_add_63 : decode cX2_add 63 = .ok (.getfield 27, 3) := by decide +kernel
theorem dX2_add_66 : decode cX2_add 66 = .ok (.aload_n 0, 1) := by decide +kernel
theorem dX2_add_67 : decode cX2_add 67 = .ok (.getfield 30, 3) := by decide +kernel
theorem dX2_add_70 : decode cX2_add 70 = .ok (.iload 6, 2) := by decide +kernel
theorem dX2_add_72 : decode cX2_add 72 = .ok (.iastore, 1) := by decide +kernel
theorem dX2_add_73 : decode cX2_add 73 = .ok (.aload_n 0, 1) := by decide +kernel
theorem dX2_add_74 : decode cX2_add 74 = .ok (.dup, 1) := by decide +kernel
theorem dX2_add_75 : decode cX2_add 75 = .ok (.getfield 30, 3) := by decide +kernel
theorem dX2_add_78 : decode cX2_add 78 = .ok (.iconst 1, 1) := by decide +kernel
theorem dX2_add_79 : decode cX2_add 79 = .ok (.iadd, 1) := by decide +kernel
theorem dX2_add_80 : decode cX2_add 80 = .ok (.putfield 30, 3) := by decide +kernel
theorem dX2_add_83 : decode cX2_add 83 = .ok (.return_, 1) := by decide +kernel
theorem dX2_costOfAll_0 : decode cX2_costOfAll 0 = .ok (.iconst 0, 1) := by decide +kernel
theorem dX2_costOfAll_1 : decode cX2_costOfAll 1 = .ok (.istore_n 1, 1) := by decide +kernel
theorem dX2_costOfAll_2 : decode cX2_costOfAll 2 = .ok (.iconst 0, 1) := by decide +kernel
theorem dX2_costOfAll_3 : decode cX2_costOfAll 3 = .ok (.istore_n 2, 1) := by decide +kernel
theorem dX2_costOfAll_4 : decode cX2_costOfAll 4 = .ok (.iload_n 2, 1) := by decide +kernel
theorem dX2_costOfAll_5 : decode cX2_costOfAll 5 = .ok (.aload_n 0, 1) := by decide +kernel
theorem dX2_costOfAll_6 : decode cX2_costOfAll 6 = .ok (.getfield 30, 3) := by decide +kernel
theorem dX2_costOfAll_9 : decode cX2_costOfAll 9 = .ok (.if_icmp .ge 18, 3) := by decide +kernel
theorem dX2_costOfAll_12 : decode cX2_costOfAll 12 = .ok (.iload_n 1, 1) := by decide +kernel
theorem dX2_costOfAll_13 : decode cX2_costOfAll 13 = .ok (.aload_n 0, 1) := by decide +kernel
theorem dX2_costOfAll_14 : decode cX2_costOfAll 14 = .ok (.getfield 24, 3) := by decide +kernel
theorem dX2_costOfAll_17 : decode cX2_costOfAll 17 = .ok (.iload_n 2, 1) := by decide +kernel
theorem dX2_costOfAll_18 : decode cX2_costOfAll 18 = .ok (.iaload, 1) := by decide +kernel
theorem dX2_costOfAll_19 : decode cX2_costOfAll 19 = .ok (.iadd, 1) := by decide +kernel
theorem dX2_costOfAll_20 : decode cX2_costOfAll 20 = .ok (.istore_n 1, 1) := by decide +kernel
theorem dX2_costOfAll_21 : decode cX2_costOfAll 21 = .ok (.iinc 2 1, 3) := by decide +kernel
theorem dX2_costOfAll_24 : decode cX2_costOfAll 24 = .ok (.goto (-20), 3) := by decide +kernel
theorem dX2_costOfAll_27 : decode cX2_costOfAll 27 = .ok (.iload_n 1, 1) := by decide +kernel
theorem dX2_costOfAll_28 : decode cX2_costOfAll 28 = .ok (.ireturn, 1) := by decide +kernel
theorem dX2_gainOfYear_0 : decode cX2_gainOfYear 0 = .ok (.iconst 0, 1) := by decide +kernel
theorem dX2_gainOfYear_1 : decode cX2_gainOfYear 1 = .ok (.istore_n 2, 1) := by decide +kernel
theorem dX2_gainOfYear_2 : decode cX2_gainOfYear 2 = .ok (.iconst 0, 1) := by decide +kernel
theorem dX2_gainOfYear_3 : decode cX2_gainOfYear 3 = .ok (.istore_n 3, 1) := by decide +kernel
theorem dX2_gainOfYear_4 : decode cX2_gainOfYear 4 = .ok (.iload_n 3, 1) := by decide +kernel
theorem dX2_gainOfYear_5 : decode cX2_gainOfYear 5 = .ok (.aload_n 0, 1) := by decide +kernel
theorem dX2_gainOfYear_6 : decode cX2_gainOfYear 6 = .ok (.getfield 30, 3) := by decide +kernel
theorem dX2_gainOfYear_9 : decode cX2_gainOfYear 9 = .ok (.if_icmp .ge 39, 3) := by decide +kernel
theorem dX2_gainOfYear_12 : decode cX2_gainOfYear 12 = .ok (.aload_n 0, 1) := by decide +kernel
theorem dX2_gainOfYear_13 : decode cX2_gainOfYear 13 = .ok (.getfield 15, 3) := by decide +kernel
theorem dX2_gainOfYear_16 : decode cX2_gainOfYear 16 = .ok (.iload_n 3, 1) := by decide +kernel
theorem dX2_gainOfYear_17 : decode cX2_gainOfYear 17 = .ok (.iaload, 1) := by decide +kernel
theorem dX2_gainOfYear_18 : decode cX2_gainOfYear 18 = .ok (.sipush 365, 3) := by decide +kernel
theorem dX2_gainOfYear_21 : decode cX2_gainOfYear 21 = .ok (.idiv, 1) := by decide +kernel
theorem dX2_gainOfYear_22 : decode cX2_gainOfYear 22 = .ok (.iload_n 1, 1) := by decide +kernel
theorem dX2_gainOfYear_23 : decode cX2_gainOfYear 23 = .ok (.if_icmp .ne 19, 3) := by decide +kernel
theorem dX2_gainOfYear_26 : decode cX2_gainOfYear 26 = .ok (.iload_n 2, 1) := by decide +kernel
theorem dX2_gainOfYear_27 : decode cX2_gainOfYear 27 = .ok (.aload_n 0, 1) := by decide +kernel
theorem dX2_gainOfYear_28 : decode cX2_gainOfYear 28 = .ok (.getfield 27, 3) := by decide +kernel
theorem dX2_gainOfYear_31 : decode cX2_gainOfYear 31 = .ok (.iload_n 3, 1) := by decide +kernel
theorem dX2_gainOfYear_32 : decode cX2_gainOfYear 32 = .ok (.iaload, 1) := by decide +kernel
theorem dX2_gainOfYear_33 : decode cX2_gainOfYear 33 = .ok (.aload_n 0, 1) := by decide +kernel
theorem dX2_gainOfYear_34 : decode cX2_gainOfYear 34 = .ok (.getfield 24, 3) := by decide +kernel
theorem dX2_gainOfYear_37 : decode cX2_gainOfYear 37 = .ok (.iload_n 3, 1) := by decide +kernel
theorem dX2_gainOfYear_38 : decode cX2_gainOfYear 38 = .ok (.iaload, 1) := by decide +kernel
theorem dX2_gainOfYear_39 : decode cX2_gainOfYear 39 = .ok (.isub, 1) := by decide +kernel
theorem dX2_gainOfYear_40 : decode cX2_gainOfYear 40 = .ok (.iadd, 1) := by decide +kernel
theorem dX2_gainOfYear_41 : decode cX2_gainOfYear 41 = .ok (.istore_n 2, 1) := by decide +kernel
theorem dX2_gainOfYear_42 : decode cX2_gainOfYear 42 = .ok (.iinc 3 1, 3) := by decide +kernel
theorem dX2_gainOfYear_45 : decode cX2_gainOfYear 45 = .ok (.goto (-41), 3) := by decide +kernel
theorem dX2_gainOfYear_48 : decode cX2_gainOfYear 48 = .ok (.iload_n 2, 1) := by decide +kernel
theorem dX2_gainOfYear_49 : decode cX2_gainOfYear 49 = .ok (.ireturn, 1) := by decide +kernel
theorem dX3_init_0 : decode cX3_init 0 = .ok (.aload_n 0, 1) := by decide +kernel
theorem dX3_init_1 : decode cX3_init 1 = .ok (.invokespecial 3, 3) := by decide +kernel
theorem dX3_init_4 : decode cX3_init 4 = .ok (.aload_n 0, 1) := by decide +kernel
theorem dX3_init_5 : decode cX3_init 5 = .ok (.bipush 60, 2) := by decide +kernel
theorem dX3_init_7 : decode cX3_init 7 = .ok (.newarray .int, 2) := by decide +kernel
theorem dX3_init_9 : decode cX3_init 9 = .ok (.putfield 9, 3) := by decide +kernel
theorem dX3_init_12 : decode cX3_init 12 = .ok (.aload_n 0, 1) := by decide +kernel
theorem dX3_init_13 : decode cX3_init 13 = .ok (.bipush 60, 2) := by decide +kernel
theorem dX3_init_15 : decode cX3_init 15 = .ok (.newarray .int, 2) := by decide +kernel
theorem dX3_init_17 : decode cX3_init 17 = .ok (.putfield 15, 3) := by decide +kernel
theorem dX3_init_20 : decode cX3_init 20 = .ok (.aload_n 0, 1) := by decide +kernel
theorem dX3_init_21 : decode cX3_init 21 = .ok (.bipush 60, 2) := by decide +kernel
theorem dX3_init_23 : decode cX3_init 23 = .ok (.newarray .int, 2) := by decide +kernel
theorem dX3_init_25 : decode cX3_init 25 = .ok (.putfield 18, 3) := by decide +kernel
theorem dX3_init_28 : decode cX3_init 28 = .ok (.aload_n 0, 1) := by decide +kernel
theorem dX3_init_29 : decode cX3_init 29 = .ok (.bipush 60, 2) := by decide +kernel
theorem dX3_init_31 : decode cX3_init 31 = .ok (.newarray .int, 2) := by decide +kernel
theorem dX3_init_33 : decode cX3_init 33 = .ok (.putfield 21, 3) := by decide +kernel
theorem dX3_init_36 : decode cX3_init 36 = .ok (.aload_n 0, 1) := by decide +kernel
theorem dX3_init_37 : decode cX3_init 37 = .ok (.bipush 60, 2) := by decide +kernel
theorem dX3_init_39 : decode cX3_init 39 = .ok (.newarray .int, 2) := by decide +kernel
theorem dX3_init_41 : decode cX3_init 41 = .ok (.putfield 24, 3) := by decide +kernel
theorem dX3_init_44 : decode cX3_init 44 = .ok (.aload_n 0, 1) := by decide +kernel
theorem dX3_init_45 : decode cX3_init 45 = .ok (.bipush 60, 2) := by decide +kernel
theorem dX3_init_47 : decode cX3_init 47 = .ok (.newarray .int, 2) := by decide +kernel
theorem dX3_init_49 : decode cX3_init 49 = .ok (.putfield 27, 3) := by decide +kernel
theorem dX3_init_52 : decode cX3_init 52 = .ok (.aload_n 0, 1) := by decide +kernel
theorem dX3_init_53 : decode cX3_init 53 = .ok (.bipush 60, 2) := by decide +kernel
theorem dX3_init_55 : decode cX3_init 55 = .ok (.newarray .int, 2) := by decide +kernel
theorem dX3_init_57 : decode cX3_init 57 = .ok (.putfield 30, 3) := by decide +kernel
theorem dX3_init_60 : decode cX3_init 60 = .ok (.aload_n 0, 1) := by decide +kernel
theorem dX3_init_61 : decode cX3_init 61 = .ok (.bipush 60, 2) := by decide +kernel
theorem dX3_init_63 : decode cX3_init 63 = .ok (.newarray .int, 2) := by decide +kernel
theorem dX3_init_65 : decode cX3_init 65 = .ok (.putfield 33, 3) := by decide +kernel
theorem dX3_init_68 : decode cX3_init 68 = .ok (.aload_n 0, 1) := by decide +kernel
theorem dX3_init_69 : decode cX3_init 69 = .ok (.bipush 60, 2) := by decide +kernel
theorem dX3_init_71 : decode cX3_init 71 = .ok (.newarray .int, 2) := by decide +kernel
theorem dX3_init_73 : decode cX3_init 73 = .ok (.putfield 36, 3) := by decide +kernel
theorem dX3_init_76 : decode cX3_init 76 = .ok (.aload_n 0, 1) := by decide +kernel
theorem dX3_init_77 : decode cX3_init 77 = .ok (.iconst 0, 1) := by decide +kernel
theorem dX3_init_78 : decode cX3_init 78 = .ok (.putfield 39, 3) := by decide +kernel
theorem dX3_init_81 : decode cX3_init 81 = .ok (.return_, 1) := by decide +kernel
set_option maxRecDepth 20000 in
theorem ggX3_fill_X3_openRows : GoodIn wsX3_fill wsX3_openRows := goodIn_r _ [5, 6, 7, 8, 9, 10, 11, 12, 13, 14, 15, 16, 17, 18, 19, 20, 4, 21, 22, 23, 24, 25, 26, 56, 57, 58, 59, 60, 61, 62, 63, 64, 65, 49, 50, 51, 52, 53, 54, 55] (by decide +kernel) (by decide +kernel)
set_option maxRecDepth 20000 in
theorem gX3_fill_X3_openRows : GoodIn wsX3_fill (wsV RX3 43 RX3 yX3_openRows wsX3_openRows) := goodIn_app (goodIn_of _ (by decide +kernel)) ggX3_fill_X3_openRows
set_option maxRecDepth 20000 in
theorem ggX3_fill_X0_counts : GoodIn wsX3_fill wsX0_counts := goodIn_r _ [15, 16, 17, 49, 50, 51, 52, 53, 54, 55] (by decide +kernel) (by decide +kernel)
set_option maxRecDepth 20000 in
theorem gX3_fill_X0_counts : GoodIn wsX3_fill (wsV RX3 50 RX0 yX0_counts wsX0_counts) := goodIn_app (goodIn_of _ (by decide +kernel)) ggX3_fill_X0_counts
set_option maxRecDepth 20000 in
theorem ggX3_fill_X4_factorBetween : GoodIn wsX3_fill wsX4_factorBetween := goodIn_r _ [31, 32, 33, 34, 66, 67, 68] (by decide +kernel) (by decide +kernel)
set_option maxRecDepth 20000 in
theorem gX3_fill_X4_factorBetween : GoodIn wsX3_fill (wsV RX3 58 RX4 yX4_factorBetween wsX4_factorBetween) := goodIn_app (goodIn_of _ (by decide +kernel)) ggX3_fill_X4_factorBetween
set_option maxRecDepth 20000 in
theorem ggX3_fill_X3_addTrade : GoodIn wsX3_fill wsX3_addTrade := goodIn_r _ [38, 9, 10, 7, 8, 23, 24, 25, 4, 26, 6, 22, 49, 50, 51, 52, 53, 54, 55, 56, 57, 58, 59, 60, 61, 62, 63, 64, 65] (by decide +kernel) (by decide +kernel)
set_option maxRecDepth 20000 in
theorem gX3_fill_X3_addTrade : GoodIn wsX3_fill (wsV RX3 64 RX3 yX3_addTrade wsX3_addTrade) := goodIn_app (goodIn_of _ (by decide +kernel)) ggX3_fill_X3_addTrade
set_option maxRecDepth 20000 in
theorem ggX3_fill_X3_setSameDaysAside : GoodIn wsX3_fill wsX3_setSameDaysAside := goodIn_r _ [42, 6, 7, 9, 43, 44, 45, 46, 47, 48, 56, 57, 58, 59, 60, 61, 62, 63, 64, 65] (by decide +kernel) (by decide +kernel)
set_option maxRecDepth 20000 in
theorem gX3_fill_X3_setSameDaysAside : GoodIn wsX3_fill (wsV RX3 68 RX3 yX3_setSameDaysAside wsX3_setSameDaysAside) := goodIn_app (goodIn_of _ (by decide +kernel)) ggX3_fill_X3_setSameDaysAside
theorem dX3_fill_0 : decode cX3_fill 0 = .ok (.aload_n 0, 1) := by decide +kernel
theorem dX3_fill_1 : decode cX3_fill 1 = .ok (.aload_n 1, 1) := by decide +kernel
theorem dX3_fill_2 : decode cX3_fill 2 = .ok (.iload_n 2, 1) := by decide +kernel
theorem dX3_fill_3 : decode cX3_fill 3 = .ok (.invokevirtual 43, 3) := by decide +kernel
theorem dX3_fill_6 : decode cX3_fill 6 = .ok (.iconst 0, 1) := by decide +kernel
theorem dX3_fill_7 : decode cX3_fill 7 = .ok (.istore 4, 2) := by decide +kernel
theorem dX3_fill_9 : decode cX3_fill 9 = .ok (.iload 4, 2) := by decide +kernel
theorem dX3_fill_11 : decode cX3_fill 11 = .ok (.aload_n 1, 1) := by decide +kernel
theorem dX3_fill_12 : decode cX3_fill 12 = .ok (.getfield 47, 3) := by decide +kernel
theorem dX3_fill_15 : decode cX3_fill 15 = .ok (.if_icmp .ge 52, 3) := by decide +kernel
theorem dX3_fill_18 : decode cX3_fill 18 = .ok (.aload_n 1, 1) := by decide +kernel
theorem dX3_fill_19 : decode cX3_fill 19 = .ok (.iload 4, 2) := by decide +kernel
theorem dX3_fill_21 : decode cX3_fill 21 = .ok (.iload_n 2, 1) := by decide +kernel
theorem dX3_fill_22 : decode cX3_fill 22 = .ok (.invokevirtual 50, 3) := by decide +kernel
theorem dX3_fill_25 : decode cX3_fill 25 = .ok (.ifCond .eq 36, 3) := by decide +kernel
theorem dX3_fill_28 : decode cX3_fill 28 = .ok (.aload_n 1, 1) := by decide +kernel
theorem dX3_fill_29 : decode cX3_fill 29 = .ok (.getfield 54, 3) := by decide +kernel
theorem dX3_fill_32 : decode cX3_fill 32 = .ok (.iload 4, 2) := by decide +kernel
theorem dX3_fill_34 : decode cX3_fill 34 = .ok (.iaload, 1) := by decide +kernel
theorem dX3_fill_35 : decode cX3_fill 35 = .ok (.aload_n 3, 1) := by decide +kernel
theorem dX3_fill_36 : decode cX3_fill 36 = .ok (.aload_n 1, 1) := by decide +kernel
theorem dX3_fill_37 : decode cX3_fill 37 = .ok (.getfield 57, 3) := by decide +kernel
theorem dX3_fill_40 : decode cX3_fill 40 = .ok (.iload 4, 2) := by decide +kernel
theorem dX3_fill_42 : decode cX3_fill 42 = .ok (.iaload, 1) := by decide +kernel
theorem dX3_fill_43 : decode cX3_fill 43 = .ok (.sipush 1825, 3) := by decide +kernel
theorem dX3_fill_46 : decode cX3_fill 46 = .ok (.invokevirtual 58, 3) := by decide +kernel
theorem dX3_fill_49 : decode cX3_fill 49 = .ok (.imul, 1) := by decide +kernel
theorem dX3_fill_50 : decode cX3_fill 50 = .ok (.istore 5, 2) := by decide +kernel
theorem dX3_fill_52 : decode cX3_fill 52 = .ok (.aload_n 0, 1) := by decide +kernel
theorem dX3_fill_53 : decode cX3_fill 53 = .ok (.aload_n 1, 1) := by decide +kernel
theorem dX3_fill_54 : decode cX3_fill 54 = .ok (.iload 4, 2) := by decide +kernel
theorem dX3_fill_56 : decode cX3_fill 56 = .ok (.iload 5, 2) := by decide +kernel
theorem dX3_fill_58 : decode cX3_fill 58 = .ok (.invokevirtual 64, 3) := by decide +kernel
theorem dX3_fill_61 : decode cX3_fill 61 = .ok (.iinc 4 1, 3) := by decide +kernel
theorem dX3_fill_64 : decode cX3_fill 64 = .ok (.goto (-55), 3) := by decide +kernel
theorem dX3_fill_67 : decode cX3_fill 67 = .ok (.aload_n 0, 1) := by decide +kernel
theorem dX3_fill_68 : decode cX3_fill 68 = .ok (.invokevirtual 68, 3) := by decide +kernel
theorem dX3_fill_71 : decode cX3_fill 71 = .ok (.return_, 1) := by decide +kernel
set_option maxRecDepth 20000 in
theorem ggX3_openRows_X0_counts : GoodIn wsX3_openRows wsX0_counts := goodIn_r _ [10, 11, 12, 33, 34, 35, 36, 37, 38, 39] (by decide +kernel) (by decide +kernel)
set_option maxRecDepth 20000 in
theorem gX3_openRows_X0_counts : GoodIn wsX3_openRows (wsV RX3 50 RX0 yX0_counts wsX0_counts) := goodIn_app (goodIn_of _ (by decide +kernel)) ggX3_openRows_X0_counts
set_option maxRecDepth 20000 in
theorem ggX3_openRows_X3_openRow : GoodIn wsX3_openRows wsX3_openRow := goodIn_r _ [17, 1, 18, 19, 20, 21, 16, 22, 23, 24, 25, 26, 27, 28, 29, 30, 31, 32] (by decide +kernel) (by decide +kernel)
set_option maxRecDepth 20000 in
theorem gX3_openRows_X3_openRow : GoodIn wsX3_openRows (wsV RX3 71 RX3 yX3_openRow wsX3_openRow) := goodIn_app (goodIn_of _ (by decide +kernel)) ggX3_openRows_X3_openRow
theorem dX3_openRows_0 : decode cX3_openRows 0 = .ok (.aload_n 0, 1) := by decide +kernel
theorem dX3_openRows_1 : decode cX3_openRows 1 = .ok (.iconst 0, 1) := by decide +kernel
theorem dX3_openRows_2 : decode cX3_openRows 2 = .ok (.putfield 39, 3) := by decide +kernel
theorem dX3_openRows_5 : decode cX3_openRows 5 = .ok (.iconst 0, 1) := by decide +kernel
theorem dX3_openRows_6 : decode cX3_openRows 6 = .ok (.istore_n 3, 1) := by decide +kernel
theorem dX3_openRows_7 : decode cX3_openRows 7 = .ok (.iload_n 3, 1) := by decide +kernel
theorem dX3_openRows_8 : decode cX3_openRows 8 = .ok (.aload_n 1, 1) := by decide +kernel
theorem dX3_openRows_9 : decode cX3_openRows 9 = .ok (.getfield 47, 3) := by decide +kernel
theorem dX3_openRows_12 : decode cX3_openRows 12 = .ok (.if_icmp .ge 28, 3) := by decide +kernel
theorem dX3_openRows_15 : decode cX3_openRows 15 = .ok (.aload_n 1, 1) := by decide +kernel
theorem dX3_openRows_16 : decode cX3_openRows 16 = .ok (.iload_n 3, 1) := by decide +kernel
theorem dX3_openRows_17 : decode cX3_openRows 17 = .ok (.iload_n 2, 1) := by decide +kernel
theorem dX3_openRows_18 : decode cX3_openRows 18 = .ok (.invokevirtual 50, 3) := by decide +kernel
theorem dX3_openRows_21 : decode cX3_openRows 21 = .ok (.ifCond .eq 13, 3) := by decide +kernel
theorem dX3_openRows_24 : decode cX3_openRows 24 = .ok (.aload_n 0, 1) := by decide +kernel
theorem dX3_openRows_25 : decode cX3_openRows 25 = .ok (.aload_n 1, 1) := by decide +kernel
theorem dX3_openRows_26 : decode cX3_openRows 26 = .ok (.getfield 57, 3) := by decide +kernel
theorem dX3_openRows_29 : decode cX3_openRows 29 = .ok (.iload_n 3, 1) := by decide +kernel
theorem dX3_openRows_30 : decode cX3_openRows 30 = .ok (.iaload, 1) := by decide +kernel
theorem dX3_openRows_31 : decode cX3_openRows 31 = .ok (.invokevirtual 71, 3) := by decide +kernel
theorem dX3_openRows_34 : decode cX3_openRows 34 = .ok (.iinc 3 1, 3) := by decide +kernel
theorem dX3_openRows_37 : decode cX3_openRows 37 = .ok (.goto (-30), 3) := by decide +kernel
theorem dX3_openRows_40 : decode cX3_openRows 40 = .ok (.iconst 0, 1) := by decide +kernel
theorem dX3_openRows_41 : decode cX3_openRows 41 = .ok (.istore_n 3, 1) := by decide +kernel
theorem dX3_openRows_42 : decode cX3_openRows 42 = .ok (.iload_n 3, 1) := by decide +kernel
theorem dX3_openRows_43 : decode cX3_openRows 43 = .ok (.aload_n 0, 1) := by decide +kernel
theorem dX3_openRows_44 : decode cX3_openRows 44 = .ok (.getfield 39, 3) := by decide +kernel
theorem dX3_openRows_47 : decode cX3_openRows 47 = .ok (.if_icmp .ge 37, 3) := by decide +kernel
theorem dX3_openRows_50 : decode cX3_openRows 50 = .ok (.aload_n 0, 1) := by decide +kernel
theorem dX3_openRows_51 : decode cX3_openRows 51 = .ok (.getfield 15, 3) := by decide +kernel
theorem dX3_openRows_54 : decode cX3_openRows 54 = .ok (.iload_n 3, 1) := by decide +kernel
theorem dX3_openRows_55 : decode cX3_openRows 55 = .ok (.iconst 0, 1) := by decide +kernel
theorem dX3_openRows_56 : decode cX3_openRows 56 = .ok (.iastore, 1) := by decide +kernel
theorem dX3_openRows_57 : decode cX3_openRows 57 = .ok (.aload_n 0, 1) := by decide +kernel
theorem dX3_openRows_58 : decode cX3_openRows 58 = .ok (.getfield 21, 3) := by decide +kernel
theorem dX3_openRows_61 : decode cX3_openRows 61 = .ok (.iload_n 3, 1) := by decide +kernel
theorem dX3_openRows_62 : decode cX3_openRows 62 = .ok (.iconst 0, 1) := by decide +kernel
theorem dX3_openRows_63 : decode cX3_openRows 63 = .ok (.iastore, 1) := by decide +kernel
theorem dX3_openRows_64 : decode cX3_openRows 64 = .ok (.aload_n 0, 1) := by decide +kernel
theorem dX3_openRows_65 : decode cX3_openRows 65 = .ok (.getfield 24, 3) := by decide +kernel
theorem dX3_openRows_68 : decode cX3_openRows 68 = .ok (.iload_n 3, 1) := by decide +kernel
theorem dX3_openRows_69 : decode cX3_openRows 69 = .ok (.iconst 0, 1) := by decide +kernel
theorem dX3_openRows_70 : decode cX3_openRows 70 = .ok (.iastore, 1) := by decide +kernel
theorem dX3_openRows_71 : decode cX3_openRows 71 = .ok (.aload_n 0, 1) := by decide +kernel
theorem dX3_openRows_72 : decode cX3_openRows 72 = .ok (.getfield 30, 3) := by decide +kernel
theorem dX3_openRows_75 : decode cX3_openRows 75 = .ok (.iload_n 3, 1) := by decide +kernel
theorem dX3_openRows_76 : decode cX3_openRows 76 = .ok (.iconst 0, 1) := by decide +kernel
theorem dX3_openRows_77 : decode cX3_openRows 77 = .ok (.iastore, 1) := by decide +kernel
theorem dX3_openRows_78 : decode cX3_openRows 78 = .ok (.iinc 3 1, 3) := by decide +kernel
theorem dX3_openRows_81 : decode cX3_openRows 81 = .ok (.goto (-39), 3) := by decide +kernel
theorem dX3_openRows_84 : decode cX3_openRows 84 = .ok (.return_, 1) := by decide +kernel
set_option maxRecDepth 20000 in
theorem ggX3_openRow_X3_lastRowUpTo : GoodIn wsX3_openRow wsX3_lastRowUpTo := goodIn_r _ [7, 1, 2, 8, 9, 10, 11, 12, 13, 14, 15, 16, 17] (by decide +kernel) (by decide +kernel)
set_option maxRecDepth 20000 in
theorem gX3_openRow_X3_lastRowUpTo : GoodIn wsX3_openRow (wsV RX3 75 RX3 yX3_lastRowUpTo wsX3_lastRowUpTo) := goodIn_app (goodIn_of _ (by decide +kernel)) ggX3_openRow_X3_lastRowUpTo
theorem dX3_openRow_0 : decode cX3_openRow 0 = .ok (.aload_n 0, 1) := by decide +kernel
theorem dX3_openRow_1 : decode cX3_openRow 1 = .ok (.iload_n 1, 1) := by decide +kernel
theorem dX3_openRow_2 : decode cX3_openRow 2 = .ok (.invokevirtual 75, 3) := by decide +kernel
theorem dX3_openRow_5 : decode cX3_openRow 5 = .ok (.istore_n 2, 1) := by decide +kernel
theorem dX3_openRow_6 : decode cX3_openRow 6 = .ok (.aload_n 0, 1) := by decide +kernel
theorem dX3_openRow_7 : decode cX3_openRow 7 = .ok (.getfield 39, 3) := by decide +kernel
theorem dX3_openRow_10 : decode cX3_openRow 10 = .ok (.bipush 60, 2) := by decide +kernel
theorem dX3_openRow_12 : decode cX3_openRow 12 = .ok (.if_icmp .ge 17, 3) := by decide +kernel
theorem dX3_openRow_15 : decode cX3_openRow 15 = .ok (.iload_n 2, 1) := by decide +kernel
theorem dX3_openRow_16 : decode cX3_openRow 16 = .ok (.ifCond .lt 14, 3) := by decide +kernel
theorem dX3_openRow_19 : decode cX3_openRow 19 = .ok (.aload_n 0, 1) := by decide +kernel
theorem dX3_openRow_20 : decode cX3_openRow 20 = .ok (.getfield 9, 3) := by decide +kernel
theorem dX3_openRow_23 : decode cX3_openRow 23 = .ok (.iload_n 2, 1) := by decide +kernel
theorem dX3_openRow_24 : decode cX3_openRow 24 = .ok (.iaload, 1) := by decide +kernel
theorem dX3_openRow_25 : decode cX3_openRow 25 = .ok (.iload_n 1, 1) := by decide +kernel
theorem dX3_openRow_26 : decode cX3_openRow 26 = .ok (.if_icmp .ne 4, 3) := by decide +kernel
theorem dX3_openRow_29 : decode cX3_openRow 29 = .ok (.return_, 1) := by decide +kernel
theorem dX3_openRow_30 : decode cX3_openRow 30 = .ok (.aload_n 0, 1) := by decide +kernel
theorem dX3_openRow_31 : decode cX3_openRow 31 = .ok (.getfield 39, 3) := by decide +kernel
theorem dX3_openRow_34 : decode cX3_openRow 34 = .ok (.istore_n 3, 1) := by decide +kernel
theorem dX3_openRow_35 : decode cX3_openRow 35 = .ok (.iload_n 3, 1) := by decide +kernel
theorem dX3_openRow_36 : decode cX3_openRow 36 = .ok (.iload_n 2, 1) := by decide +kernel
theorem dX3_openRow_37 : decode cX3_openRow 37 = .ok (.iconst 1, 1) := by decide +kernel
theorem dX3_openRow_38 : decode cX3_openRow 38 = .ok (.iadd, 1) := by decide +kernel
theorem dX3_openRow_39 : decode cX3_openRow 39 = .ok (.if_icmp .le 23, 3) := by decide +kernel
theorem dX3_openRow_42 : decode cX3_openRow 42 = .ok (.aload_n 0, 1) := by decide +kernel
theorem dX3_openRow_43 : decode cX3_openRow 43 = .ok (.getfield 9, 3) := by decide +kernel
theorem dX3_openRow_46 : decode cX3_openRow 46 = .ok (.iload_n 3, 1) := by decide +kernel
theorem dX3_openRow_47 : decode cX3_openRow 47 = .ok (.aload_n 0, 1) := by decide +kernel
theorem dX3_openRow_48 : decode cX3_openRow 48 = .ok (.getfield 9, 3) := by decide +kernel
theorem dX3_openRow_51 : decode cX3_openRow 51 = .ok (.iload_n 3, 1) := by decide +kernel
theorem dX3_openRow_52 : decode cX3_openRow 52 = .ok (.iconst 1, 1) := by decide +kernel
theorem dX3_openRow_53 : decode cX3_openRow 53 = .ok (.isub, 1) := by decide +kernel
theorem dX3_openRow_54 : decode cX3_openRow 54 = .ok (.iaload, 1) := by decide +kernel
theorem dX3_openRow_55 : decode cX3_openRow 55 = .ok (.iastore, 1) := by decide +kernel
theorem dX3_openRow_56 : decode cX3_openRow 56 = .ok (.iinc 3 (-1), 3) := by decide +kernel
theorem dX3_openRow_59 : decode cX3_openRow 59 = .ok (.goto (-24), 3) := by decide +kernel
theorem dX3_openRow_62 : decode cX3_openRow 62 = .ok (.aload_n 0, 1) := by decide +kernel
theorem dX3_openRow_63 : decode cX3_openRow 63 = .ok (.getfield 9, 3) := by decide +kernel
theorem dX3_openRow_66 : decode cX3_openRow 66 = .ok (.iload_n 2, 1) := by decide +kernel
theorem dX3_openRow_67 : decode cX3_openRow 67 = .ok (.iconst 1, 1) := by decide +kernel
theorem dX3_openRow_68 : decode cX3_openRow 68 = .ok (.iadd, 1) := by decide +kernel
theorem dX3_openRow_69 : decode cX3_openRow 69 = .ok (.iload_n 1, 1) := by decide +kernel
theorem dX3_openRow_70 : decode cX3_openRow 70 = .ok (.iastore, 1) := by decide +kernel
theorem dX3_openRow_71 : decode cX3_openRow 71 = .ok (.aload_n 0, 1) := by decide +kernel
theorem dX3_openRow_72 : decode cX3_openRow 72 = .ok (.dup, 1) := by decide +kernel
theorem dX3_openRow_73 : decode cX3_openRow 73 = .ok (.getfield 39, 3) := by decide +kernel
theorem dX3_openRow_76 : decode cX3_openRow 76 = .ok (.iconst 1, 1) := by decide +kernel
theorem dX3_openRow_77 : decode cX3_openRow 77 = .ok (.iadd, 1) := by decide +kernel
theorem dX3_openRow_78 : decode cX3_openRow 78 = .ok (.putfield 39, 3) := by decide +kernel
theorem dX3_openRow_81 : decode cX3_openRow 81 = .ok (.return_, 1) := by decide +kernel
set_option maxRecDepth 20000 in
theorem ggX3_addTrade_X3_lastRowUpTo : GoodIn wsX3_addTrade wsX3_lastRowUpTo := goodIn_r _ [9, 10, 11, 19, 20, 21, 22, 23, 24, 25, 26, 27, 28] (by decide +kernel) (by decide +kernel)
set_option maxRecDepth 20000 in
theorem gX3_addTrade_X3_lastRowUpTo : GoodIn wsX3_addTrade (wsV RX3 75 RX3 yX3_lastRowUpTo wsX3_lastRowUpTo) := goodIn_app (goodIn_of _ (by decide +kernel)) ggX3_addTrade_X3_lastRowUpTo
theorem dX3_addTrade_0 : decode cX3_addTrade 0 = .ok (.aload_n 0, 1) := by decide +kernel
theorem dX3_addTrade_1 : decode cX3_addTrade 1 = .ok (.aload_n 1, 1) := by decide +kernel
theorem dX3_addTrade_2 : decode cX3_addTrade 2 = .ok (.getfield 57, 3) := by decide +kernel
theorem dX3_addTrade_5 : decode cX3_addTrade 5 = .ok (.iload_n 2, 1) := by decide +kernel
theorem dX3_addTrade_6 : decode cX3_addTrade 6 = .ok (.iaload, 1) := by decide +kernel
theorem dX3_addTrade_7 : decode cX3_addTrade 7 = .ok (.invokevirtual 75, 3) := by decide +kernel
theorem dX3_addTrade_10 : decode cX3_addTrade 10 = .ok (.istore 4, 2) := by decide +kernel
theorem dX3_addTrade_12 : decode cX3_addTrade 12 = .ok (.iload 4, 2) := by decide +kernel
theorem dX3_addTrade_14 : decode cX3_addTrade 14 = .ok (.ifCond .ge 4, 3) := by decide +kernel
theorem dX3_addTrade_17 : decode cX3_addTrade 17 = .ok (.return_, 1) := by decide +kernel
theorem dX3_addTrade_18 : decode cX3_addTrade 18 = .ok (.aload_n 1, 1) := by decide +kernel
theorem dX3_addTrade_19 : decode cX3_addTrade 19 = .ok (.getfield 79, 3) := by decide +kernel
theorem dX3_addTrade_22 : decode cX3_addTrade 22 = .ok (.iload_n 2, 1) := by decide +kernel
theorem dX3_addTrade_23 : decode cX3_addTrade 23 = .ok (.baload, 1) := by decide +kernel
theorem dX3_addTrade_24 : decode cX3_addTrade 24 = .ok (.ifCond .eq 33, 3) := by decide +kernel
theorem dX3_addTrade_27 : decode cX3_addTrade 27 = .ok (.aload_n 0, 1) := by decide +kernel
theorem dX3_addTrade_28 : decode cX3_addTrade 28 = .ok (.getfield 24, 3) := by decide +kernel
theorem dX3_addTrade_31 : decode cX3_addTrade 31 = .ok (.iload 4, 2) := by decide +kernel
theorem dX3_addTrade_33 : decode cX3_addTrade 33 = .ok (.dup2, 1) := by decide +kernel
theorem dX3_addTrade_34 : decode cX3_addTrade 34 = .ok (.iaload, 1) := by decide +kernel
theorem dX3_addTrade_35 : decode cX3_addTrade 35 = .ok (.iload_n 3, 1) := by decide +kernel
theorem dX3_addTrade_36 : decode cX3_addTrade 36 = .ok (.iadd, 1) := by decide +kernel
theorem dX3_addTrade_37 : decode cX3_addTrade 37 = .ok (.iastore, 1) := by decide +kernel
theorem dX3_addTrade_38 : decode cX3_addTrade 38 = .ok (.aload_n 0, 1) := by decide +kernel
theorem dX3_addTrade_39 : decode cX3_addTrade 39 = .ok (.getfield 30, 3) := by decide +kernel
theorem dX3_addTrade_42 : decode cX3_addTrade 42 = .ok (.iload 4, 2) := by decide +kernel
theorem dX3_addTrade_44 : decode cX3_addTrade 44 = .ok (.dup2, 1) := by decide +kernel
theorem dX3_addTrade_45 : decode cX3_addTrade 45 = .ok (.iaload, 1) := by decide +kernel
theorem dX3_addTrade_46 : decode cX3_addTrade 46 = .ok (.aload_n 1, 1) := by decide +kernel
theorem dX3_addTrade_47 : decode cX3_addTrade 47 = .ok (.getfield 83, 3) := by decide +kernel
theorem dX3_addTrade_50 : decode cX3_addTrade 50 = .ok (.iload_n 2, 1) := by decide +kernel
theorem dX3_addTrade_51 : decode cX3_addTrade 51 = .ok (.iaload, 1) := by decide +kernel
theorem dX3_addTrade_52 : decode cX3_addTrade 52 = .ok (.iadd, 1) := by decide +kernel
theorem dX3_addTrade_53 : decode cX3_addTrade 53 = .ok (.iastore, 1) := by decide +kernel
theorem dX3_addTrade_54 : decode cX3_addTrade 54 = .ok (.goto 30, 3) := by decide +kernel
theorem dX3_addTrade_57 : decode cX3_addTrade 57 = .ok (.aload_n 0, 1) := by decide +kernel
theorem dX3_addTrade_58 : decode cX3_addTrade 58 = .ok (.getfield 15, 3) := by decide +kernel
theorem dX3_addTrade_61 : decode cX3_addTrade 61 = .ok (.iload 4, 2) := by decide +kernel
theorem dX3_addTrade_63 : decode cX3_addTrade 63 = .ok (.dup2, 1) := by decide +kernel
theorem dX3_addTrade_64 : decode cX3_addTrade 64 = .ok (.iaload, 1) := by decide +kernel
theorem dX3_addTrade_65 : decode cX3_addTrade 65 = .ok (.iload_n 3, 1) := by decide +kernel
theorem dX3_addTrade_66 : decode cX3_addTrade 66 = .ok (.iadd, 1) := by decide +kernel
theorem dX3_addTrade_67 : decode cX3_addTrade 67 = .ok (.iastore, 1) := by decide +kernel
theorem dX3_addTrade_68 : decode cX3_addTrade 68 = .ok (.aload_n 0, 1) := by decide +kernel
theorem dX3_addTrade_69 : decode cX3_addTrade 69 = .ok (.getfield 21, 3) := by decide +kernel
theorem dX3_addTrade_72 : decode cX3_addTrade 72 = .ok (.iload 4, 2) := by decide +kernel
theorem dX3_addTrade_74 : decode cX3_addTrade 74 = .ok (.dup2, 1) := by decide +kernel
theorem dX3_addTrade_75 : decode cX3_addTrade 75 = .ok (.iaload, 1) := by decide +kernel
theorem dX3_addTrade_76 : decode cX3_addTrade 76 = .ok (.aload_n 1, 1) := by decide +kernel
theorem dX3_addTrade_77 : decode cX3_addTrade 77 = .ok (.getfield 83, 3) := by decide +kernel
theorem dX3_addTrade_80 : decode cX3_addTrade 80 = .ok (.iload_n 2, 1) := by decide +kernel
theorem dX3_addTrade_81 : decode cX3_addTrade 81 = .ok (.iaload, 1) := by decide +kernel
theorem dX3_addTrade_82 : decode cX3_addTrade 82 = .ok (.iadd, 1) := by decide +kernel
theorem dX3_addTrade_83 : decode cX3_addTrade 83 = .ok (.iastore, 1) := by decide +kernel
theorem dX3_addTrade_84 : decode cX3_addTrade 84 = .ok (.return_, 1) := by decide +kernel
theorem dX3_setSameDaysAside_0 : decode cX3_setSameDaysAside 0 = .ok (.iconst 0, 1) := by decide +kernel
theorem dX3_setSameDaysAside_1 : decode cX3_setSameDaysAside 1 = .ok (.istore_n 1, 1) := by decide +kernel
theorem dX3_setSameDaysAside_2 : decode cX3_setSameDaysAside 2 = .ok (.iload_n 1, 1) := by decide +kernel
theorem dX3_setSameDaysAside_3 : decode cX3_setSameDaysAside 3 = .ok (.aload_n 0, 1) := by decide +kernel
theorem dX3_setSameDaysAside_4 : decode cX3_setSameDaysAside 4 = .ok (.getfield 39, 3) := by decide +kernel
theorem dX3_setSameDaysAside_7 : decode cX3_setSameDaysAside 7 = .ok (.if_icmp .ge 39, 3) := by decide +kernel
theorem dX3_setSameDaysAside_10 : decode cX3_setSameDaysAside 10 = .ok (.aload_n 0, 1) := by decide +kernel
theorem dX3_setSameDaysAside_11 : decode cX3_setSameDaysAside 11 = .ok (.getfield 15, 3) := by decide +kernel
theorem dX3_setSameDaysAside_14 : decode cX3_setSameDaysAside 14 = .ok (.iload_n 1, 1) := by decide +kernel
theorem dX3_setSameDaysAside_15 : decode cX3_setSameDaysAside 15 = .ok (.iaload, 1) := by decide +kernel
theorem dX3_setSameDaysAside_16 : decode cX3_setSameDaysAside 16 = .ok (.aload_n 0, 1) := by decide +kernel
theorem dX3_setSameDaysAside_17 : decode cX3_setSameDaysAside 17 = .ok (.getfield 24, 3) := by decide +kernel
theorem dX3_setSameDaysAside_20 : decode cX3_setSameDaysAside 20 = .ok (.iload_n 1, 1) := by decide +kernel
theorem dX3_setSameDaysAside_21 : decode cX3_setSameDaysAside 21 = .ok (.iaload, 1) := by decide +kernel
theorem dX3_setSameDaysAside_22 : decode cX3_setSameDaysAside 22 = .ok (.invokestatic 86, 3) := by decide +kernel
theorem dX3_setSameDaysAside_25 : decode cX3_setSameDaysAside 25 = .ok (.istore_n 2, 1) := by decide +kernel
theorem dX3_setSameDaysAside_26 : decode cX3_setSameDaysAside 26 = .ok (.aload_n 0, 1) := by decide +kernel
theorem dX3_setSameDaysAside_27 : decode cX3_setSameDaysAside 27 = .ok (.getfield 18, 3) := by decide +kernel
theorem dX3_setSameDaysAside_30 : decode cX3_setSameDaysAside 30 = .ok (.iload_n 1, 1) := by decide +kernel
theorem dX3_setSameDaysAside_31 : decode cX3_setSameDaysAside 31 = .ok (.iload_n 2, 1) := by decide +kernel
theorem dX3_setSameDaysAside_32 : decode cX3_setSameDaysAside 32 = .ok (.iastore, 1) := by decide +kernel
theorem dX3_setSameDaysAside_33 : decode cX3_setSameDaysAside 33 = .ok (.aload_n 0, 1) := by decide +kernel
theorem dX3_setSameDaysAside_34 : decode cX3_setSameDaysAside 34 = .ok (.getfield 27, 3) := by decide +kernel
theorem dX3_setSameDaysAside_37 : decode cX3_setSameDaysAside 37 = .ok (.iload_n 1, 1) := by decide +kernel
theorem dX3_setSameDaysAside_38 : decode cX3_setSameDaysAside 38 = .ok (.iload_n 2, 1) := by decide +kernel
theorem dX3_setSameDaysAside_39 : decode cX3_setSameDaysAside 39 = .ok (.iastore, 1) := by decide +kernel
theorem dX3_setSameDaysAside_40 : decode cX3_setSameDaysAside 40 = .ok (.iinc 1 1, 3) := by decide +kernel
theorem dX3_setSameDaysAside_43 : decode cX3_setSameDaysAside 43 = .ok (.goto (-41), 3) := by decide +kernel
theorem dX3_setSameDaysAside_46 : decode cX3_setSameDaysAside 46 = .ok (.return_, 1) := by decide +kernel
theorem dX3_lastRowUpTo_0 : decode cX3_lastRowUpTo 0 = .ok (.iconst (-1), 1) := by decide +kernel
theorem dX3_lastRowUpTo_1 : decode cX3_lastRowUpTo 1 = .ok (.istore_n 2, 1) := by decide +kernel
theorem dX3_lastRowUpTo_2 : decode cX3_lastRowUpTo 2 = .ok (.iconst 0, 1) := by decide +kernel
theorem dX3_lastRowUpTo_3 : decode cX3_lastRowUpTo 3 = .ok (.istore_n 3, 1) := by decide +kernel
theorem dX3_lastRowUpTo_4 : decode cX3_lastRowUpTo 4 = .ok (.iload_n 3, 1) := by decide +kernel
theorem dX3_lastRowUpTo_5 : decode cX3_lastRowUpTo 5 = .ok (.aload_n 0, 1) := by decide +kernel
theorem dX3_lastRowUpTo_6 : decode cX3_lastRowUpTo 6 = .ok (.getfield 39, 3) := by decide +kernel
theorem dX3_lastRowUpTo_9 : decode cX3_lastRowUpTo 9 = .ok (.if_icmp .ge 21, 3) := by decide +kernel
theorem dX3_lastRowUpTo_12 : decode cX3_lastRowUpTo 12 = .ok (.aload_n 0, 1) := by decide +kernel
theorem dX3_lastRowUpTo_13 : decode cX3_lastRowUpTo 13 = .ok (.getfield 9, 3) := by decide +kernel
theorem dX3_lastRowUpTo_16 : decode cX3_lastRowUpTo 16 = .ok (.iload_n 3, 1) := by decide +kernel
theorem dX3_lastRowUpTo_17 : decode cX3_lastRowUpTo 17 = .ok (.iaload, 1) := by decide +kernel
theorem dX3_lastRowUpTo_18 : decode cX3_lastRowUpTo 18 = .ok (.iload_n 1, 1) := by decide +kernel
theorem dX3_lastRowUpTo_19 : decode cX3_lastRowUpTo 19 = .ok (.if_icmp .gt 11, 3) := by decide +kernel
theorem dX3_lastRowUpTo_22 : decode cX3_lastRowUpTo 22 = .ok (.iload_n 3, 1) := by decide +kernel
theorem dX3_lastRowUpTo_23 : decode cX3_lastRowUpTo 23 = .ok (.istore_n 2, 1) := by decide +kernel
theorem dX3_lastRowUpTo_24 : decode cX3_lastRowUpTo 24 = .ok (.iinc 3 1, 3) := by decide +kernel
theorem dX3_lastRowUpTo_27 : decode cX3_lastRowUpTo 27 = .ok (.goto (-23), 3) := by decide +kernel
theorem dX3_lastRowUpTo_30 : decode cX3_lastRowUpTo 30 = .ok (.iload_n 2, 1) := by decide +kernel
theorem dX3_lastRowUpTo_31 : decode cX3_lastRowUpTo 31 = .ok (.ireturn, 1) := by decide +kernel
theorem dX3_leastUnitsFrom_0 : decode cX3_leastUnitsFrom 0 = .ok (.iconst 0, 1) := by decide +kernel
theorem dX3_leastUnitsFrom_1 : decode cX3_leastUnitsFrom 1 = .ok (.istore_n 2, 1) := by decide +kernel
theorem dX3_leastUnitsFrom_2 : decode cX3_leastUnitsFrom 2 = .ok (.iconst 0, 1) := by decide +kernel
theorem dX3_leastUnitsFrom_3 : decode cX3_leastUnitsFrom 3 = .ok (.istore_n 3, 1) := by decide +kernel
theorem dX3_leastUnitsFrom_4 : decode cX3_leastUnitsFrom 4 = .ok (.iload_n 3, 1) := by decide +kernel
theorem dX3_leastUnitsFrom_5 : decode cX3_leastUnitsFrom 5 = .ok (.aload_n 0, 1) := by decide +kernel
theorem dX3_leastUnitsFrom_6 : decode cX3_leastUnitsFrom 6 = .ok (.getfield 39, 3) := by decide +kernel
theorem dX3_leastUnitsFrom_9 : decode cX3_leastUnitsFrom 9 = .ok (.if_icmp .ge 35, 3) := by decide +kernel
theorem dX3_leastUnitsFrom_12 : decode cX3_leastUnitsFrom 12 = .ok (.aload_n 0, 1) := by decide +kernel
theorem dX3_leastUnitsFrom_13 : decode cX3_leastUnitsFrom 13 = .ok (.getfield 9, 3) := by decide +kernel
theorem dX3_leastUnitsFrom_16 : decode cX3_leastUnitsFrom 16 = .ok (.iload_n 3, 1) := by decide +kernel
theorem dX3_leastUnitsFrom_17 : decode cX3_leastUnitsFrom 17 = .ok (.iaload, 1) := by decide +kernel
theorem dX3_leastUnitsFrom_18 : decode cX3_leastUnitsFrom 18 = .ok (.iload_n 1, 1) := by decide +kernel
theorem dX3_leastUnitsFrom_19 : decode cX3_leastUnitsFrom 19 = .ok (.if_icmp .gt 25, 3) := by decide +kernel
theorem dX3_leastUnitsFrom_22 : decode cX3_leastUnitsFrom 22 = .ok (.iload_n 2, 1) := by decide +kernel
theorem dX3_leastUnitsFrom_23 : decode cX3_leastUnitsFrom 23 = .ok (.aload_n 0, 1) := by decide +kernel
theorem dX3_leastUnitsFrom_24 : decode cX3_leastUnitsFrom 24 = .ok (.getfield 15, 3) := by decide +kernel
theorem dX3_leastUnitsFrom_27 : decode cX3_leastUnitsFrom 27 = .ok (.iload_n 3, 1) := by decide +kernel
theorem dX3_leastUnitsFrom_28 : decode cX3_leastUnitsFrom 28 = .ok (.iaload, 1) := by decide +kernel
theorem dX3_leastUnitsFrom_29 : decode cX3_leastUnitsFrom 29 = .ok (.aload_n 0, 1) := by decide +kernel
theorem dX3_leastUnitsFrom_30 : decode cX3_leastUnitsFrom 30 = .ok (.getfield 24, 3) := by decide +kernel
theorem dX3_leastUnitsFrom_33 : decode cX3_leastUnitsFrom 33 = .ok (.iload_n 3, 1) := by decide +kernel
theorem dX3_leastUnitsFrom_34 : decode cX3_leastUnitsFrom 34 = .ok (.iaload, 1) := by decide +kernel
theorem dX3_leastUnitsFrom_35 : decode cX3_leastUnitsFrom 35 = .ok (.isub, 1) := by decide +kernel
theorem dX3_leastUnitsFrom_36 : decode cX3_leastUnitsFrom 36 = .ok (.iadd, 1) := by decide +kernel
theorem dX3_leastUnitsFrom_37 : decode cX3_leastUnitsFrom 37 = .ok (.istore_n 2, 1) := by decide +kernel
theorem dX3_leastUnitsFrom_38 : decode cX3_leastUnitsFrom 38 = .ok (.iinc 3 1, 3) := by decide +kernel
theorem dX3_leastUnitsFrom_41 : decode cX3_leastUnitsFrom 41 = .ok (.goto (-37), 3) := by decide +kernel
theorem dX3_leastUnitsFrom_44 : decode cX3_leastUnitsFrom 44 = .ok (.iload_n 2, 1) := by decide +kernel
theorem dX3_leastUnitsFrom_45 : decode cX3_leastUnitsFrom 45 = .ok (.istore 4, 2) := by decide +kernel
theorem dX3_leastUnitsFrom_47 : decode cX3_leastUnitsFrom 47 = .ok (.iload_n 3, 1) := by decide +kernel
theorem dX3_leastUnitsFrom_48 : decode cX3_leastUnitsFrom 48 = .ok (.aload_n 0, 1) := by decide +kernel
theorem dX3_leastUnitsFrom_49 : decode cX3_leastUnitsFrom 49 = .ok (.getfield 39, 3) := by decide +kernel
theorem dX3_leastUnitsFrom_52 : decode cX3_leastUnitsFrom 52 = .ok (.if_icmp .ge 33, 3) := by decide +kernel
theorem dX3_leastUnitsFrom_55 : decode cX3_leastUnitsFrom 55 = .ok (.iload_n 2, 1) := by decide +kernel
theorem dX3_leastUnitsFrom_56 : decode cX3_leastUnitsFrom 56 = .ok (.aload_n 0, 1) := by decide +kernel
theorem dX3_leastUnitsFrom_57 : decode cX3_leastUnitsFrom 57 = .ok (.getfield 15, 3) := by decide +kernel
theorem dX3_leastUnitsFrom_60 : decode cX3_leastUnitsFrom 60 = .ok (.iload_n 3, 1) := by decide +kernel
theorem dX3_leastUnitsFrom_61 : decode cX3_leastUnitsFrom 61 = .ok (.iaload, 1) := by decide +kernel
theorem dX3_leastUnitsFrom_62 : decode cX3_leastUnitsFrom 62 = .ok (.aload_n 0, 1) := by decide +kernel
theorem dX3_leastUnitsFrom_63 : decode cX3_leastUnitsFrom 63 = .ok (.getfield 24, 3) := by decide +kernel
theorem dX3_leastUnitsFrom_66 : decode cX3_leastUnitsFrom 66 = .ok (.iload_n 3, 1) := by decide +kernel
theorem dX3_leastUnitsFrom_67 : decode cX3_leastUnitsFrom 67 = .ok (.iaload, 1) := by decide +kernel
theorem dX3_leastUnitsFrom_68 : decode cX3_leastUnitsFrom 68 = .ok (.isub, 1) := by decide +kernel
theorem dX3_leastUnitsFrom_69 : decode cX3_leastUnitsFrom 69 = .ok (.iadd, 1) := by decide +kernel
theorem dX3_leastUnitsFrom_70 : decode cX3_leastUnitsFrom 70 = .ok (.istore_n 2, 1) := by decide +kernel
theorem dX3_leastUnitsFrom_71 : decode cX3_leastUnitsFrom 71 = .ok (.iload 4, 2) := by decide +kernel
theorem dX3_leastUnitsFrom_73 : decode cX3_leastUnitsFrom 73 = .ok (.iload_n 2, 1) := by decide +kernel
theorem dX3_leastUnitsFrom_74 : decode cX3_leastUnitsFrom 74 = .ok (.invokestatic 86, 3) := by decide +kernel
theorem dX3_leastUnitsFrom_77 : decode cX3_leastUnitsFrom 77 = .ok (.istore 4, 2) := by decide +kernel
theorem dX3_leastUnitsFrom_79 : decode cX3_leastUnitsFrom 79 = .ok (.iinc 3 1, 3) := by decide +kernel
theorem dX3_leastUnitsFrom_82 : decode cX3_leastUnitsFrom 82 = .ok (.goto (-35), 3) := by decide +kernel
theorem dX3_leastUnitsFrom_85 : decode cX3_leastUnitsFrom 85 = .ok (.iload 4, 2) := by decide +kernel
theorem dX3_leastUnitsFrom_87 : decode cX3_leastUnitsFrom 87 = .ok (.ireturn, 1) := by decide +kernel
theorem dX3_costOfBuys_0 : decode cX3_costOfBuys 0 = .ok (.iconst 0, 1) := by decide +kernel
theorem dX3_costOfBuys_1 : decode cX3_costOfBuys 1 = .ok (.istore_n 1, 1) := by decide +kernel
theorem dX3_costOfBuys_2 : decode cX3_costOfBuys 2 = .ok (.iconst 0, 1) := by decide +kernel
theorem dX3_costOfBuys_3 : decode cX3_costOfBuys 3 = .ok (.istore_n 2, 1) := by decide +kernel
theorem dX3_costOfBuys_4 : decode cX3_costOfBuys 4 = .ok (.iload_n 2, 1) := by decide +kernel
theorem dX3_costOfBuys_5 : decode cX3_costOfBuys 5 = .ok (.aload_n 0, 1) := by decide +kernel
theorem dX3_costOfBuys_6 : decode cX3_costOfBuys 6 = .ok (.getfield 39, 3) := by decide +kernel
theorem dX3_costOfBuys_9 : decode cX3_costOfBuys 9 = .ok (.if_icmp .ge 18, 3) := by decide +kernel
theorem dX3_costOfBuys_12 : decode cX3_costOfBuys 12 = .ok (.iload_n 1, 1) := by decide +kernel
theorem dX3_costOfBuys_13 : decode cX3_costOfBuys 13 = .ok (.aload_n 0, 1) := by decide +kernel
theorem dX3_costOfBuys_14 : decode cX3_costOfBuys 14 = .ok (.getfield 21, 3) := by decide +kernel
theorem dX3_costOfBuys_17 : decode cX3_costOfBuys 17 = .ok (.iload_n 2, 1) := by decide +kernel
theorem dX3_costOfBuys_18 : decode cX3_costOfBuys 18 = .ok (.iaload, 1) := by decide +kernel
theorem dX3_costOfBuys_19 : decode cX3_costOfBuys 19 = .ok (.iadd, 1) := by decide +kernel
theorem dX3_costOfBuys_20 : decode cX3_costOfBuys 20 = .ok (.istore_n 1, 1) := by decide +kernel
theorem dX3_costOfBuys_21 : decode cX3_costOfBuys 21 = .ok (.iinc 2 1, 3) := by decide +kernel
theorem dX3_costOfBuys_24 : decode cX3_costOfBuys 24 = .ok (.goto (-20), 3) := by decide +kernel
theorem dX3_costOfBuys_27 : decode cX3_costOfBuys 27 = .ok (.iload_n 1, 1) := by decide +kernel
theorem dX3_costOfBuys_28 : decode cX3_costOfBuys 28 = .ok (.ireturn, 1) := by decide +kernel
theorem dX4_init_0 : decode cX4_init 0 = .ok (.aload_n 0, 1) := by decide +kernel
theorem dX4_init_1 : decode cX4_init 1 = .ok (.invokespecial 3, 3) := by decide +kernel
theorem dX4_init_4 : decode cX4_init 4 = .ok (.aload_n 0, 1) := by decide +kernel
theorem dX4_init_5 : decode cX4_init 5 = .ok (.iconst 4, 1) := by decide +kernel
theorem dX4_init_6 : decode cX4_init 6 = .ok (.newarray .int, 2) := by decide +kernel
theorem dX4_init_8 : decode cX4_init 8 = .ok (.putfield 9, 3) := by decide +kernel
theorem dX4_init_11 : decode cX4_init 11 = .ok (.aload_n 0, 1) := by decide +kernel
theorem dX4_init_12 : decode cX4_init 12 = .ok (.iconst 4, 1) := by decide +kernel
theorem dX4_init_13 : decode cX4_init 13 = .ok (.newarray .int, 2) := by decide +kernel
theorem dX4_init_15 : decode cX4_init 15 = .ok (.putfield 15, 3) := by decide +kernel
theorem dX4_init_18 : decode cX4_init 18 = .ok (.aload_n 0, 1) := by decide +kernel
theorem dX4_init_19 : decode cX4_init 19 = .ok (.iconst 0, 1) := by decide +kernel
theorem dX4_init_20 : decode cX4_init 20 = .ok (.putfield 18, 3) := by decide +kernel
theorem dX4_init_23 : decode cX4_init 23 = .ok (.return_, 1) := by decide +kernel
theorem dX4_isFull_0 : decode cX4_isFull 0 = .ok (.aload_n 0, 1) := by decide +kernel
theorem dX4_isFull_1 : decode cX4_isFull 1 = .ok (.getfield 18, 3) := by decide +kernel
theorem dX4_isFull_4 : decode cX4_isFull 4 = .ok (.iconst 4, 1) := by decide +kernel
theorem dX4_isFull_5 : decode cX4_isFull 5 = .ok (.if_icmp .lt 7, 3) := by decide +kernel
theorem dX4_isFull_8 : decode cX4_isFull 8 = .ok (.iconst 1, 1) := by decide +kernel
theorem dX4_isFull_9 : decode cX4_isFull 9 = .ok (.goto 4, 3) := by decide +kernel
theorem dX4_isFull_12 : decode cX4_isFull 12 = .ok (.iconst 0, 1) := by decide +kernel
theorem dX4_isFull_13 : decode cX4_isFull 13 = .ok (.ireturn, 1) := by decide +kernel
theorem dX4_hasDay_0 : decode cX4_hasDay 0 = .ok (.iconst 0, 1) := by decide +kernel
theorem dX4_hasDay_1 : decode cX4_hasDay 1 = .ok (.istore_n 2, 1) := by decide +kernel
theorem dX4_hasDay_2 : decode cX4_hasDay 2 = .ok (.iload_n 2, 1) := by decide +kernel
theorem dX4_hasDay_3 : decode cX4_hasDay 3 = .ok (.aload_n 0, 1) := by decide +kernel
theorem dX4_hasDay_4 : decode cX4_hasDay 4 = .ok (.getfield 18, 3) := by decide +kernel
theorem dX4_hasDay_7 : decode cX4_hasDay 7 = .ok (.if_icmp .ge 21, 3) := by decide +kernel
theorem dX4_hasDay_10 : decode cX4_hasDay 10 = .ok (.aload_n 0, 1) := by decide +kernel
theorem dX4_hasDay_11 : decode cX4_hasDay 11 = .ok (.getfield 9, 3) := by decide +kernel
theorem dX4_hasDay_14 : decode cX4_hasDay 14 = .ok (.iload_n 2, 1) := by decide +kernel
theorem dX4_hasDay_15 : decode cX4_hasDay 15 = .ok (.iaload, 1) := by decide +kernel
theorem dX4_hasDay_16 : decode cX4_hasDay 16 = .ok (.iload_n 1, 1) := by decide +kernel
theorem dX4_hasDay_17 : decode cX4_hasDay 17 = .ok (.if_icmp .ne 5, 3) := by decide +kernel
theorem dX4_hasDay_20 : decode cX4_hasDay 20 = .ok (.iconst 1, 1) := by decide +kernel
theorem dX4_hasDay_21 : decode cX4_hasDay 21 = .ok (.ireturn, 1) := by decide +kernel
theorem dX4_hasDay_22 : decode cX4_hasDay 22 = .ok (.iinc 2 1, 3) := by decide +kernel
theorem dX4_hasDay_25 : decode cX4_hasDay 25 = .ok (.goto (-23), 3) := by decide +kernel
theorem dX4_hasDay_28 : decode cX4_hasDay 28 = .ok (.iconst 0, 1) := by decide +kernel
theorem dX4_hasDay_29 : decode cX4_hasDay 29 = .ok (.ireturn, 1) := by decide +kernel
set_option maxRecDepth 20000 in
theorem ggX4_enter_X4_isFull : GoodIn wsX4_enter wsX4_isFull := goodIn_r _ [8, 2, 9, 10, 11] (by decide +kernel) (by decide +kernel)
set_option maxRecDepth 20000 in
theorem gX4_enter_X4_isFull : GoodIn wsX4_enter (wsV RX4 22 RX4 yX4_isFull wsX4_isFull) := goodIn_app (goodIn_of _ (by decide +kernel)) ggX4_enter_X4_isFull
theorem dX4_enter_0 : decode cX4_enter 0 = .ok (.aload_n 0, 1) := by decide +kernel
theorem dX4_enter_1 : decode cX4_enter 1 = .ok (.invokevirtual 22, 3) := by decide +kernel
theorem dX4_enter_4 : decode cX4_enter 4 = .ok (.ifCond .eq 4, 3) := by decide +kernel
theorem dX4_enter_7 : decode cX4_enter 7 = .ok (.return_, 1) := by decide +kernel
theorem dX4_enter_8 : decode cX4_enter 8 = .ok (.aload_n 0, 1) := by decide +kernel
theorem dX4_enter_9 : decode cX4_enter 9 = .ok (.getfield 9, 3) := by decide +kernel
theorem dX4_enter_12 : decode cX4_enter 12 = .ok (.aload_n 0, 1) := by decide +kernel
theorem dX4_enter_13 : decode cX4_enter 13 = .ok (.getfield 18, 3) := by decide +kernel
theorem dX4_enter_16 : decode cX4_enter 16 = .ok (.iload_n 1, 1) := by decide +kernel
theorem dX4_enter_17 : decode cX4_enter 17 = .ok (.iastore, 1) := by decide +kernel
theorem dX4_enter_18 : decode cX4_enter 18 = .ok (.aload_n 0, 1) := by decide +kernel
theorem dX4_enter_19 : decode cX4_enter 19 = .ok (.getfield 15, 3) := by decide +kernel
theorem dX4_enter_22 : decode cX4_enter 22 = .ok (.aload_n 0, 1) := by decide +kernel
theorem dX4_enter_23 : decode cX4_enter 23 = .ok (.getfield 18, 3) := by decide +kernel
theorem dX4_enter_26 : decode cX4_enter 26 = .ok (.iload_n 2, 1) := by decide +kernel
theorem dX4_enter_27 : decode cX4_enter 27 = .ok (.iastore, 1) := by decide +kernel
theorem dX4_enter_28 : decode cX4_enter 28 = .ok (.aload_n 0, 1) := by decide +kernel
theorem dX4_enter_29 : decode cX4_enter 29 = .ok (.dup, 1) := by decide +kernel
theorem dX4_enter_30 : decode cX4_enter 30 = .ok (.getfield 18, 3) := by decide +kernel
theorem dX4_enter_33 : decode cX4_enter 33 = .ok (.iconst 1, 1) := by decide +kernel
theorem dX4_enter_34 : decode cX4_enter 34 = .ok (.iadd, 1) := by decide +kernel
theorem dX4_enter_35 : decode cX4_enter 35 = .ok (.putfield 18, 3) := by decide +kernel
theorem dX4_enter_38 : decode cX4_enter 38 = .ok (.return_, 1) := by decide +kernel
theorem dX4_factorBetween_0 : decode cX4_factorBetween 0 = .ok (.iconst 1, 1) := by decide +kernel
theorem dX4_factorBetween_1 : decode cX4_factorBetween 1 = .ok (.istore_n 3, 1) := by decide +kernel
theorem dX4_factorBetween_2 : decode cX4_factorBetween 2 = .ok (.iconst 0, 1) := by decide +kernel
theorem dX4_factorBetween_3 : decode cX4_factorBetween 3 = .ok (.istore 4, 2) := by decide +kernel
theorem dX4_factorBetween_5 : decode cX4_factorBetween 5 = .ok (.iload 4, 2) := by decide +kernel
theorem dX4_factorBetween_7 : decode cX4_factorBetween 7 = .ok (.aload_n 0, 1) := by decide +kernel
theorem dX4_factorBetween_8 : decode cX4_factorBetween 8 = .ok (.getfield 18, 3) := by decide +kernel
theorem dX4_factorBetween_11 : decode cX4_factorBetween 11 = .ok (.if_icmp .ge 41, 3) := by decide +kernel
theorem dX4_factorBetween_14 : decode cX4_factorBetween 14 = .ok (.aload_n 0, 1) := by decide +kernel
theorem dX4_factorBetween_15 : decode cX4_factorBetween 15 = .ok (.getfield 9, 3) := by decide +kernel
theorem dX4_factorBetween_18 : decode cX4_factorBetween 18 = .ok (.iload 4, 2) := by decide +kernel
theorem dX4_factorBetween_20 : decode cX4_factorBetween 20 = .ok (.iaload, 1) := by decide +kernel
theorem dX4_factorBetween_21 : decode cX4_factorBetween 21 = .ok (.iload_n 1, 1) := by decide +kernel
theorem dX4_factorBetween_22 : decode cX4_factorBetween 22 = .ok (.if_icmp .le 24, 3) := by decide +kernel
theorem dX4_factorBetween_25 : decode cX4_factorBetween 25 = .ok (.aload_n 0, 1) := by decide +kernel
theorem dX4_factorBetween_26 : decode cX4_factorBetween 26 = .ok (.getfield 9, 3) := by decide +kernel
theorem dX4_factorBetween_29 : decode cX4_factorBetween 29 = .ok (.iload 4, 2) := by decide +kernel
theorem dX4_factorBetween_31 : decode cX4_factorBetween 31 = .ok (.iaload, 1) := by decide +kernel
theorem dX4_factorBetween_32 : decode cX4_factorBetween 32 = .ok (.iload_n 2, 1) := by decide +kernel
theorem dX4_factorBetween_33 : decode cX4_factorBetween 33 = .ok (.if_icmp .gt 13, 3) := by decide +kernel
theorem dX4_factorBetween_36 : decode cX4_factorBetween 36 = .ok (.iload_n 3, 1) := by decide +kernel
theorem dX4_factorBetween_37 : decode cX4_factorBetween 37 = .ok (.aload_n 0, 1) := by decide +kernel
theorem dX4_factorBetween_38 : decode cX4_factorBetween 38 = .ok (.getfield 15, 3) := by decide +kernel
theorem dX4_factorBetween_41 : decode cX4_factorBetween 41 = .ok (.iload 4, 2) := by decide +kernel
theorem dX4_factorBetween_43 : decode cX4_factorBetween 43 = .ok (.iaload, 1) := by decide +kernel
theorem dX4_factorBetween_44 : decode cX4_factorBetween 44 = .ok (.imul, 1) := by decide +kernel
theorem dX4_factorBetween_45 : decode cX4_factorBetween 45 = .ok (.istore_n 3, 1) := by decide +kernel
theorem dX4_factorBetween_46 : decode cX4_factorBetween 46 = .ok (.iinc 4 1, 3) := by decide +kernel
theorem dX4_factorBetween_49 : decode cX4_factorBetween 49 = .ok (.goto (-44), 3) := by decide +kernel
theorem dX4_factorBetween_52 : decode cX4_factorBetween 52 = .ok (.iload_n 3, 1) := by decide +kernel
theorem dX4_factorBetween_53 : decode cX4_factorBetween 53 = .ok (.ireturn, 1) := by decide +kernel
set_option maxRecDepth 20000 in
theorem ggX5_init_X0_init : GoodIn wsX5_init wsX0_init := goodIn_r _ [16, 17, 2, 3, 18, 19, 20, 12, 21, 22, 23, 24, 25, 72, 73, 74, 75, 76, 77, 78] (by decide +kernel) (by decide +kernel)
set_option maxRecDepth 20000 in
theorem gX5_init_X0_init_n9 : GoodIn wsX5_init (wsX0_init) := ggX5_init_X0_init
set_option maxRecDepth 20000 in
theorem ggX5_init_X1_init : GoodIn wsX5_init wsX1_init := goodIn_r _ [28, 29, 2, 3, 30, 31, 32, 33, 34, 35, 36, 37, 38, 39, 40, 41, 42, 43, 44, 45, 12, 46, 47, 48, 49, 50, 51, 52, 53, 54, 55, 56, 57, 58, 59, 60, 61, 62, 63, 64, 65, 66, 67, 68, 69, 70, 71, 87, 88, 89, 83, 84, 85, 86, 90, 91, 92, 93, 94, 95, 96, 97, 98, 99, 100, 101, 102, 103, 104, 105, 106] (by decide +kernel) (by decide +kernel)
set_option maxRecDepth 20000 in
theorem gX5_init_X1_init : GoodIn wsX5_init (wsX1_init) := ggX5_init_X1_init
end
section
theorem dX5_init_0 : decode cX5_init 0 = .ok (.aload_n 0, 1) := by decide +kernel
theorem dX5_init_1 : decode cX5_init 1 = .ok (.invokespecial 1, 3) := by decide +kernel
theorem dX5_init_4 : decode cX5_init 4 = .ok (.aload_n 0, 1) := by decide +kernel
theorem dX5_init_5 : decode cX5_init 5 = .ok (.new 7, 3) := by decide +kernel
theorem dX5_init_8 : decode cX5_init 8 = .ok (.dup, 1) := by decide +kernel
theorem dX5_init_9 : decode cX5_init 9 = .ok (.invokespecial 9, 3) := by decide +kernel
theorem dX5_init_12 : decode cX5_init 12 = .ok (.putfield 10, 3) := by decide +kernel
theorem dX5_init_15 : decode cX5_init 15 = .ok (.aload_n 0, 1) := by decide +kernel
theorem dX5_init_16 : decode cX5_init 16 = .ok (.iconst 3, 1) := by decide +kernel
theorem dX5_init_17 : decode cX5_init 17 = .ok (.anewarray 16, 3) := by decide +kernel
theorem dX5_init_20 : decode cX5_init 20 = .ok (.putfield 18, 3) := by decide +kernel
theorem dX5_init_23 : decode cX5_init 23 = .ok (.iconst 0, 1) := by decide +kernel
theorem dX5_init_24 : decode cX5_init 24 = .ok (.istore_n 1, 1) := by decide +kernel
theorem dX5_init_25 : decode cX5_init 25 = .ok (.iload_n 1, 1) := by decide +kernel
theorem dX5_init_26 : decode cX5_init 26 = .ok (.iconst 3, 1) := by decide +kernel
theorem dX5_init_27 : decode cX5_init 27 = .ok (.if_icmp .ge 23, 3) := by decide +kernel
theorem dX5_init_30 : decode cX5_init 30 = .ok (.aload_n 0, 1) := by decide +kernel
theorem dX5_init_31 : decode cX5_init 31 = .ok (.getfield 18, 3) := by decide +kernel
theorem dX5_init_34 : decode cX5_init 34 = .ok (.iload_n 1, 1) := by decide +kernel
theorem dX5_init_35 : decode cX5_init 35 = .ok (.new 16, 3) := by decide +kernel
theorem dX5_init_38 : decode cX5_init 38 = .ok (.dup, 1) := by decide +kernel
theorem dX5_init_39 : decode cX5_init 39 = .ok (.iload_n 1, 1) := by decide +kernel
theorem dX5_init_40 : decode cX5_init 40 = .ok (.invokespecial 22, 3) := by decide +kernel
theorem dX5_init_43 : decode cX5_init 43 = .ok (.aastore, 1) := by decide +kernel
theorem dX5_init_44 : decode cX5_init 44 = .ok (.iinc 1 1, 3) := by decide +kernel
theorem dX5_init_47 : decode cX5_init 47 = .ok (.goto (-22), 3) := by decide +kernel
theorem dX5_init_50 : decode cX5_init 50 = .ok (.aload_n 0, 1) := by decide +kernel
theorem dX5_init_51 : decode cX5_init 51 = .ok (.iconst 5, 1) := by decide +kernel
theorem dX5_init_52 : decode cX5_init 52 = .ok (.newarray .int, 2) := by decide +kernel
theorem dX5_init_54 : decode cX5_init 54 = .ok (.putfield 25, 3) := by decide +kernel
theorem dX5_init_57 : decode cX5_init 57 = .ok (.aload_n 0, 1) := by decide +kernel
theorem dX5_init_58 : decode cX5_init 58 = .ok (.bipush 30, 2) := by decide +kernel
theorem dX5_init_60 : decode cX5_init 60 = .ok (.putfield 29, 3) := by decide +kernel
theorem dX5_init_63 : decode cX5_init 63 = .ok (.return_, 1) := by decide +kernel
set_option maxRecDepth 20000 in
theorem ggX5_buy_X5_ledgerAt : GoodIn wsX5_buy wsX5_ledgerAt := goodIn_ca (goodIn_r _ [7, 8, 9, 10, 11, 12, 6, 13, 14, 140, 141, 142, 143] (by decide +kernel) (by decide +kernel)) (goodIn_sub (fun _ h => List.mem_cons_of_mem _ (List.mem_append_left _ (List.mem_append_left _ (List.mem_append_right _ h)))) (by decide +kernel))
set_option maxRecDepth 20000 in
theorem gX5_buy_X5_ledgerAt : GoodIn wsX5_buy (wsV RX5 33 RX5 yX5_ledgerAt wsX5_ledgerAt) := goodIn_app (goodIn_of _ (by decide +kernel)) ggX5_buy_X5_ledgerAt
set_option maxRecDepth 20000 in
theorem ggX5_buy_X5_checkTrade : GoodIn wsX5_buy wsX5_checkTrade := goodIn_ca (goodIn_r _ [17, 18, 19, 20, 21, 6, 22, 23] (by decide +kernel) (by decide +kernel)) (goodIn_sub (fun _ h => List.mem_cons_of_mem _ (List.mem_append_left _ (List.mem_append_right _ h))) (by decide +kernel))
set_option maxRecDepth 20000 in
theorem gX5_buy_X5_checkTrade : GoodIn wsX5_buy (va_wsS RX5 37 yX5_checkTrade wsX5_checkTrade) := goodIn_app (goodIn_of _ (by decide +kernel)) ggX5_buy_X5_checkTrade
set_option maxRecDepth 20000 in
theorem ggX5_buy_X5_checkRoomForTrade : GoodIn wsX5_buy wsX5_checkRoomForTrade := goodIn_ca (goodIn_r _ [27, 28, 29, 1, 30, 31, 32, 33, 34, 35, 140, 141, 142, 143, 144, 145, 146, 147, 148, 149, 150] (by decide +kernel) (by decide +kernel)) (goodIn_sub (fun _ h => List.mem_cons_of_mem _ (List.mem_append_right _ h)) (by decide +kernel))
set_option maxRecDepth 20000 in
theorem gX5_buy_X5_checkRoomForTrade : GoodIn wsX5_buy (wsV RX5 41 RX5 yX5_checkRoomForTrade wsX5_checkRoomForTrade) := goodIn_app (goodIn_of _ (by decide +kernel)) ggX5_buy_X5_checkRoomForTrade
set_option maxRecDepth 20000 in
theorem ggX5_buy_X0_enter : GoodIn wsX5_buy wsX0_enter := goodIn_r _ [39, 35, 40, 41, 42, 43, 44, 45, 31, 32, 33, 34, 144, 145, 146, 147, 148, 149, 150] (by decide +kernel) (by decide +kernel)
set_option maxRecDepth 20000 in
theorem gX5_buy_X0_enter : GoodIn wsX5_buy (wsV RX5 44 RX0 yX0_enter wsX0_enter) := goodIn_app (goodIn_of _ (by decide +kernel)) ggX5_buy_X0_enter
set_option maxRecDepth 20000 in
theorem ggX5_buy_X1_reckon : GoodIn wsX5_buy wsX1_reckon := goodIn_r _ [50, 51, 52, 53, 54, 55, 56, 57, 58, 59, 60, 61, 62, 63, 64, 65, 66, 67, 68, 69, 70, 71, 33, 72, 41, 73, 74, 75, 76, 77, 78, 79, 80, 81, 82, 83, 84, 85, 86, 87, 88, 89, 90, 91, 92, 93, 94, 95, 96, 97, 98, 99, 100, 101, 102, 103, 104, 105, 106, 107, 49, 108, 109, 110, 6, 111, 112, 113, 114, 115, 116, 117, 118, 119, 120, 121, 122, 123, 124, 125, 126, 127, 128, 129, 130, 131, 132, 133, 134, 135, 136, 137, 138, 139, 151, 152, 153, 154, 155, 156, 157, 158, 159, 160, 161, 162, 163, 164, 165, 166, 167, 168, 169, 170, 171, 144, 145, 146, 147, 148, 149, 150, 172, 173, 174] (by decide +kernel) (by decide +kernel)
set_option maxRecDepth 20000 in
theorem gX5_buy_X1_reckon : GoodIn wsX5_buy (wsV RX5 48 RX1 yX1_reckon wsX1_reckon) := goodIn_app (goodIn_of _ (by decide +kernel)) ggX5_buy_X1_reckon
theorem dX5_buy_0 : decode cX5_buy 0 = .ok (.aload_n 0, 1) := by decide +kernel
theorem dX5_buy_1 : decode cX5_buy 1 = .ok (.iload_n 1, 1) := by decide +kernel
theorem dX5_buy_2 : decode cX5_buy 2 = .ok (.iload_n 2, 1) := by decide +kernel
theorem dX5_buy_3 : decode cX5_buy 3 = .ok (.invokevirtual 33, 3) := by decide +kernel
theorem dX5_buy_6 : decode cX5_buy 6 = .ok (.astore 5, 2) := by decide +kernel
theorem dX5_buy_8 : decode cX5_buy 8 = .ok (.iload_n 3, 1) := by decide +kernel
theorem dX5_buy_9 : decode cX5_buy 9 = .ok (.iload 4, 2) := by decide +kernel
theorem dX5_buy_11 : decode cX5_buy 11 = .ok (.invokestatic 37, 3) := by decide +kernel
theorem dX5_buy_14 : decode cX5_buy 14 = .ok (.aload_n 0, 1) := by decide +kernel
theorem dX5_buy_15 : decode cX5_buy 15 = .ok (.invokevirtual 41, 3) := by decide +kernel
theorem dX5_buy_18 : decode cX5_buy 18 = .ok (.aload_n 0, 1) := by decide +kernel
theorem dX5_buy_19 : decode cX5_buy 19 = .ok (.getfield 10, 3) := by decide +kernel
theorem dX5_buy_22 : decode cX5_buy 22 = .ok (.iconst 0, 1) := by decide +kernel
theorem dX5_buy_23 : decode cX5_buy 23 = .ok (.iload_n 1, 1) := by decide +kernel
theorem dX5_buy_24 : decode cX5_buy 24 = .ok (.iload_n 2, 1) := by decide +kernel
theorem dX5_buy_25 : decode cX5_buy 25 = .ok (.iload_n 3, 1) := by decide +kernel
theorem dX5_buy_26 : decode cX5_buy 26 = .ok (.iload 4, 2) := by decide +kernel
theorem dX5_buy_28 : decode cX5_buy 28 = .ok (.invokevirtual 44, 3) := by decide +kernel
theorem dX5_buy_31 : decode cX5_buy 31 = .ok (.istore 6, 2) := by decide +kernel
theorem dX5_buy_33 : decode cX5_buy 33 = .ok (.aload 5, 2) := by decide +kernel
theorem dX5_buy_35 : decode cX5_buy 35 = .ok (.aload_n 0, 1) := by decide +kernel
theorem dX5_buy_36 : decode cX5_buy 36 = .ok (.getfield 10, 3) := by decide +kernel
theorem dX5_buy_39 : decode cX5_buy 39 = .ok (.aload_n 0, 1) := by decide +kernel
theorem dX5_buy_40 : decode cX5_buy 40 = .ok (.getfield 29, 3) := by decide +kernel
theorem dX5_buy_43 : decode cX5_buy 43 = .ok (.invokevirtual 48, 3) := by decide +kernel
theorem dX5_buy_46 : decode cX5_buy 46 = .ok (.iload 6, 2) := by decide +kernel
theorem dX5_buy_48 : decode cX5_buy 48 = .ok (.ireturn, 1) := by decide +kernel
set_option maxRecDepth 20000 in
theorem ggX5_sell_X5_ledgerAt : GoodIn wsX5_sell wsX5_ledgerAt := goodIn_ca (goodIn_r _ [7, 8, 9, 10, 11, 12, 6, 13, 14, 148, 149, 150, 151] (by decide +kernel) (by decide +kernel)) (goodIn_sub (fun _ h => List.mem_cons_of_mem _ (List.mem_append_left _ (List.mem_append_left _ (List.mem_append_right _ h)))) (by decide +kernel))
set_option maxRecDepth 20000 in
theorem gX5_sell_X5_ledgerAt : GoodIn wsX5_sell (wsV RX5 33 RX5 yX5_ledgerAt wsX5_ledgerAt) := goodIn_app (goodIn_of _ (by decide +kernel)) ggX5_sell_X5_ledgerAt
set_option maxRecDepth 20000 in
theorem ggX5_sell_X5_checkTrade : GoodIn wsX5_sell wsX5_checkTrade := goodIn_ca (goodIn_r _ [17, 18, 19, 20, 21, 6, 22, 23] (by decide +kernel) (by decide +kernel)) (goodIn_sub (fun _ h => List.mem_cons_of_mem _ (List.mem_append_left _ (List.mem_append_right _ h))) (by decide +kernel))
set_option maxRecDepth 20000 in
theorem gX5_sell_X5_checkTrade : GoodIn wsX5_sell (va_wsS RX5 37 yX5_checkTrade wsX5_checkTrade) := goodIn_app (goodIn_of _ (by decide +kernel)) ggX5_sell_X5_checkTrade
set_option maxRecDepth 20000 in
theorem ggX5_sell_X5_checkRoomForTrade : GoodIn wsX5_sell wsX5_checkRoomForTrade := goodIn_ca (goodIn_r _ [27, 28, 29, 1, 30, 31, 32, 33, 34, 35, 148, 149, 150, 151, 152, 153, 154, 155, 156, 157, 158] (by decide +kernel) (by decide +kernel)) (goodIn_sub (fun _ h => List.mem_cons_of_mem _ (List.mem_append_right _ h)) (by decide +kernel))
set_option maxRecDepth 20000 in
theorem gX5_sell_X5_checkRoomForTrade : GoodIn wsX5_sell (wsV RX5 41 RX5 yX5_checkRoomForTrade wsX5_checkRoomForTrade) := goodIn_app (goodIn_of _ (by decide +kernel)) ggX5_sell_X5_checkRoomForTrade
set_option maxRecDepth 20000 in
theorem ggX5_sell_X5_checkCanSpare : GoodIn wsX5_sell wsX5_checkCanSpare := goodIn_ca (goodIn_r _ [38, 28, 29, 39, 40, 41, 42, 43, 44, 45, 46, 47, 48, 49, 50, 51, 52, 53, 54, 55, 56, 57, 58, 59, 159, 160, 161, 162, 163, 164, 165, 166, 167, 168, 169, 170, 171, 172, 173, 174, 175] (by decide +kernel) (by decide +kernel)) (goodIn_sub (fun _ h => List.mem_cons_of_mem _ (List.mem_append_right _ h)) (by decide +kernel))
set_option maxRecDepth 20000 in
theorem gX5_sell_X5_checkCanSpare : GoodIn wsX5_sell (va_wsS RX5 52 yX5_checkCanSpare wsX5_checkCanSpare) := goodIn_app (goodIn_of _ (by decide +kernel)) ggX5_sell_X5_checkCanSpare
set_option maxRecDepth 20000 in
theorem ggX5_sell_X0_enter : GoodIn wsX5_sell wsX0_enter := goodIn_r _ [63, 35, 64, 65, 66, 67, 68, 69, 31, 32, 33, 34, 152, 153, 154, 155, 156, 157, 158] (by decide +kernel) (by decide +kernel)
set_option maxRecDepth 20000 in
theorem gX5_sell_X0_enter : GoodIn wsX5_sell (wsV RX5 44 RX0 yX0_enter wsX0_enter) := goodIn_app (goodIn_of _ (by decide +kernel)) ggX5_sell_X0_enter
set_option maxRecDepth 20000 in
theorem ggX5_sell_X1_reckon : GoodIn wsX5_sell wsX1_reckon := goodIn_r _ [74, 75, 76, 77, 78, 79, 80, 81, 50, 82, 83, 84, 85, 86, 52, 54, 87, 55, 88, 89, 90, 91, 33, 92, 65, 93, 94, 95, 96, 97, 53, 98, 99, 100, 101, 102, 40, 41, 42, 43, 44, 45, 46, 103, 104, 105, 106, 107, 108, 109, 110, 56, 57, 58, 59, 111, 112, 113, 114, 115, 73, 116, 117, 118, 6, 119, 120, 121, 122, 123, 124, 125, 126, 127, 128, 129, 130, 131, 132, 133, 134, 135, 136, 137, 138, 139, 140, 141, 142, 143, 144, 145, 146, 147, 159, 160, 161, 162, 176, 177, 178, 179, 180, 181, 182, 166, 167, 168, 169, 170, 171, 172, 173, 174, 175, 152, 153, 154, 155, 156, 157, 158, 163, 164, 165] (by decide +kernel) (by decide +kernel)
set_option maxRecDepth 20000 in
theorem gX5_sell_X1_reckon : GoodIn wsX5_sell (wsV RX5 48 RX1 yX1_reckon wsX1_reckon) := goodIn_app (goodIn_of _ (by decide +kernel)) ggX5_sell_X1_reckon
theorem dX5_sell_0 : decode cX5_sell 0 = .ok (.aload_n 0, 1) := by decide +kernel
theorem dX5_sell_1 : decode cX5_sell 1 = .ok (.iload_n 1, 1) := by decide +kernel
theorem dX5_sell_2 : decode cX5_sell 2 = .ok (.iload_n 2, 1) := by decide +kernel
theorem dX5_sell_3 : decode cX5_sell 3 = .ok (.invokevirtual 33, 3) := by decide +kernel
theorem dX5_sell_6 : decode cX5_sell 6 = .ok (.astore 5, 2) := by decide +kernel
theorem dX5_sell_8 : decode cX5_sell 8 = .ok (.iload_n 3, 1) := by decide +kernel
theorem dX5_sell_9 : decode cX5_sell 9 = .ok (.iload 4, 2) := by decide +kernel
theorem dX5_sell_11 : decode cX5_sell 11 = .ok (.invokestatic 37, 3) := by decide +kernel
theorem dX5_sell_14 : decode cX5_sell 14 = .ok (.aload_n 0, 1) := by decide +kernel
theorem dX5_sell_15 : decode cX5_sell 15 = .ok (.invokevirtual 41, 3) := by decide +kernel
theorem dX5_sell_18 : decode cX5_sell 18 = .ok (.aload 5, 2) := by decide +kernel
theorem dX5_sell_20 : decode cX5_sell 20 = .ok (.iload_n 2, 1) := by decide +kernel
theorem dX5_sell_21 : decode cX5_sell 21 = .ok (.iload_n 3, 1) := by decide +kernel
theorem dX5_sell_22 : decode cX5_sell 22 = .ok (.invokestatic 52, 3) := by decide +kernel
theorem dX5_sell_25 : decode cX5_sell 25 = .ok (.aload_n 0, 1) := by decide +kernel
theorem dX5_sell_26 : decode cX5_sell 26 = .ok (.getfield 10, 3) := by decide +kernel
theorem dX5_sell_29 : decode cX5_sell 29 = .ok (.iconst 1, 1) := by decide +kernel
theorem dX5_sell_30 : decode cX5_sell 30 = .ok (.iload_n 1, 1) := by decide +kernel
theorem dX5_sell_31 : decode cX5_sell 31 = .ok (.iload_n 2, 1) := by decide +kernel
theorem dX5_sell_32 : decode cX5_sell 32 = .ok (.iload_n 3, 1) := by decide +kernel
theorem dX5_sell_33 : decode cX5_sell 33 = .ok (.iload 4, 2) := by decide +kernel
theorem dX5_sell_35 : decode cX5_sell 35 = .ok (.invokevirtual 44, 3) := by decide +kernel
theorem dX5_sell_38 : decode cX5_sell 38 = .ok (.istore 6, 2) := by decide +kernel
theorem dX5_sell_40 : decode cX5_sell 40 = .ok (.aload 5, 2) := by decide +kernel
theorem dX5_sell_42 : decode cX5_sell 42 = .ok (.aload_n 0, 1) := by decide +kernel
theorem dX5_sell_43 : decode cX5_sell 43 = .ok (.getfield 10, 3) := by decide +kernel
theorem dX5_sell_46 : decode cX5_sell 46 = .ok (.aload_n 0, 1) := by decide +kernel
theorem dX5_sell_47 : decode cX5_sell 47 = .ok (.getfield 29, 3) := by decide +kernel
theorem dX5_sell_50 : decode cX5_sell 50 = .ok (.invokevirtual 48, 3) := by decide +kernel
theorem dX5_sell_53 : decode cX5_sell 53 = .ok (.iload 6, 2) := by decide +kernel
theorem dX5_sell_55 : decode cX5_sell 55 = .ok (.ireturn, 1) := by decide +kernel
set_option maxRecDepth 20000 in
theorem ggX5_split_X5_ledgerAt : GoodIn wsX5_split wsX5_ledgerAt := goodIn_ca (goodIn_r _ [11, 12, 13, 14, 15, 16, 10, 17, 18, 132, 133, 134, 135] (by decide +kernel) (by decide +kernel)) (goodIn_sub (fun _ h => List.mem_cons_of_mem _ (List.mem_append_right _ h)) (by decide +kernel))
set_option maxRecDepth 20000 in
theorem gX5_split_X5_ledgerAt : GoodIn wsX5_split (wsV RX5 33 RX5 yX5_ledgerAt wsX5_ledgerAt) := goodIn_app (goodIn_of _ (by decide +kernel)) ggX5_split_X5_ledgerAt
set_option maxRecDepth 20000 in
theorem ggX5_split_X4_isFull : GoodIn wsX5_split wsX4_isFull := goodIn_r _ [23, 24, 136, 137, 138] (by decide +kernel) (by decide +kernel)
set_option maxRecDepth 20000 in
theorem gX5_split_X4_isFull : GoodIn wsX5_split (wsV RX5 67 RX4 yX4_isFull wsX4_isFull) := goodIn_app (goodIn_of _ (by decide +kernel)) ggX5_split_X4_isFull
set_option maxRecDepth 20000 in
theorem ggX5_split_X4_hasDay : GoodIn wsX5_split wsX4_hasDay := goodIn_r _ [28, 24, 29, 136, 137, 138] (by decide +kernel) (by decide +kernel)
set_option maxRecDepth 20000 in
theorem gX5_split_X4_hasDay : GoodIn wsX5_split (wsV RX5 73 RX4 yX4_hasDay wsX4_hasDay) := goodIn_app (goodIn_of _ (by decide +kernel)) ggX5_split_X4_hasDay
set_option maxRecDepth 20000 in
theorem ggX5_split_X4_enter : GoodIn wsX5_split wsX4_enter := goodIn_r _ [33, 29, 24, 34, 35, 20, 21, 22, 23, 136, 137, 138] (by decide +kernel) (by decide +kernel)
set_option maxRecDepth 20000 in
theorem gX5_split_X4_enter : GoodIn wsX5_split (wsV RX5 82 RX4 yX4_enter wsX4_enter) := goodIn_app (goodIn_of _ (by decide +kernel)) ggX5_split_X4_enter
set_option maxRecDepth 20000 in
theorem ggX5_split_X1_reckon : GoodIn wsX5_split wsX1_reckon := goodIn_r _ [40, 41, 42, 43, 44, 45, 46, 47, 48, 49, 50, 51, 52, 53, 54, 55, 56, 57, 58, 59, 60, 61, 62, 63, 64, 65, 66, 67, 68, 69, 70, 71, 72, 73, 74, 75, 76, 77, 22, 78, 24, 29, 34, 79, 80, 81, 82, 83, 84, 85, 86, 87, 88, 89, 90, 91, 92, 93, 94, 95, 39, 96, 97, 98, 10, 99, 100, 101, 102, 103, 104, 105, 106, 107, 108, 109, 110, 111, 112, 113, 114, 115, 116, 117, 118, 119, 120, 121, 122, 123, 124, 125, 126, 127, 128, 129, 130, 131, 139, 140, 141, 142, 143, 144, 145, 146, 147, 148, 149, 150, 151, 152, 153, 154, 155, 156, 157, 158, 159, 160, 161, 162, 136, 137, 138] (by decide +kernel) (by decide +kernel)
set_option maxRecDepth 20000 in
theorem gX5_split_X1_reckon : GoodIn wsX5_split (wsV RX5 48 RX1 yX1_reckon wsX1_reckon) := goodIn_app (goodIn_of _ (by decide +kernel)) ggX5_split_X1_reckon
theorem dX5_split_0 : decode cX5_split 0 = .ok (.aload_n 0, 1) := by decide +kernel
theorem dX5_split_1 : decode cX5_split 1 = .ok (.iload_n 1, 1) := by decide +kernel
theorem dX5_split_2 : decode cX5_split 2 = .ok (.iload_n 2, 1) := by decide +kernel
theorem dX5_split_3 : decode cX5_split 3 = .ok (.invokevirtual 33, 3) := by decide +kernel
theorem dX5_split_6 : decode cX5_split 6 = .ok (.astore 4, 2) := by decide +kernel
theorem dX5_split_8 : decode cX5_split 8 = .ok (.iload_n 3, 1) := by decide +kernel
theorem dX5_split_9 : decode cX5_split 9 = .ok (.iconst 2, 1) := by decide +kernel
theorem dX5_split_10 : decode cX5_split 10 = .ok (.if_icmp .lt 8, 3) := by decide +kernel
theorem dX5_split_13 : decode cX5_split 13 = .ok (.iload_n 3, 1) := by decide +kernel
theorem dX5_split_14 : decode cX5_split 14 = .ok (.iconst 5, 1) := by decide +kernel
theorem dX5_split_15 : decode cX5_split 15 = .ok (.if_icmp .le 13, 3) := by decide +kernel
theorem dX5_split_18 : decode cX5_split 18 = .ok (.new 56, 3) := by decide +kernel
theorem dX5_split_21 : decode cX5_split 21 = .ok (.dup, 1) := by decide +kernel
theorem dX5_split_22 : decode cX5_split 22 = .ok (.ldc 58, 2) := by decide +kernel
theorem dX5_split_24 : decode cX5_split 24 = .ok (.invokespecial 60, 3) := by decide +kernel
theorem dX5_split_27 : decode cX5_split 27 = .ok (.athrow, 1) := by decide +kernel
theorem dX5_split_28 : decode cX5_split 28 = .ok (.aload 4, 2) := by decide +kernel
theorem dX5_split_30 : decode cX5_split 30 = .ok (.getfield 63, 3) := by decide +kernel
theorem dX5_split_33 : decode cX5_split 33 = .ok (.invokevirtual 67, 3) := by decide +kernel
theorem dX5_split_36 : decode cX5_split 36 = .ok (.ifCond .ne 15, 3) := by decide +kernel
theorem dX5_split_39 : decode cX5_split 39 = .ok (.aload 4, 2) := by decide +kernel
theorem dX5_split_41 : decode cX5_split 41 = .ok (.getfield 63, 3) := by decide +kernel
theorem dX5_split_44 : decode cX5_split 44 = .ok (.iload_n 2, 1) := by decide +kernel
theorem dX5_split_45 : decode cX5_split 45 = .ok (.invokevirtual 73, 3) := by decide +kernel
theorem dX5_split_48 : decode cX5_split 48 = .ok (.ifCond .eq 13, 3) := by decide +kernel
theorem dX5_split_51 : decode cX5_split 51 = .ok (.new 77, 3) := by decide +kernel
theorem dX5_split_54 : decode cX5_split 54 = .ok (.dup, 1) := by decide +kernel
theorem dX5_split_55 : decode cX5_split 55 = .ok (.ldc 79, 2) := by decide +kernel
theorem dX5_split_57 : decode cX5_split 57 = .ok (.invokespecial 81, 3) := by decide +kernel
theorem dX5_split_60 : decode cX5_split 60 = .ok (.athrow, 1) := by decide +kernel
theorem dX5_split_61 : decode cX5_split 61 = .ok (.aload 4, 2) := by decide +kernel
theorem dX5_split_63 : decode cX5_split 63 = .ok (.getfield 63, 3) := by decide +kernel
theorem dX5_split_66 : decode cX5_split 66 = .ok (.iload_n 2, 1) := by decide +kernel
theorem dX5_split_67 : decode cX5_split 67 = .ok (.iload_n 3, 1) := by decide +kernel
theorem dX5_split_68 : decode cX5_split 68 = .ok (.invokevirtual 82, 3) := by decide +kernel
theorem dX5_split_71 : decode cX5_split 71 = .ok (.aload 4, 2) := by decide +kernel
theorem dX5_split_73 : decode cX5_split 73 = .ok (.aload_n 0, 1) := by decide +kernel
theorem dX5_split_74 : decode cX5_split 74 = .ok (.getfield 10, 3) := by decide +kernel
theorem dX5_split_77 : decode cX5_split 77 = .ok (.aload_n 0, 1) := by decide +kernel
theorem dX5_split_78 : decode cX5_split 78 = .ok (.getfield 29, 3) := by decide +kernel
theorem dX5_split_81 : decode cX5_split 81 = .ok (.invokevirtual 48, 3) := by decide +kernel
theorem dX5_split_84 : decode cX5_split 84 = .ok (.aload 4, 2) := by decide +kernel
theorem dX5_split_86 : decode cX5_split 86 = .ok (.getfield 63, 3) := by decide +kernel
theorem dX5_split_89 : decode cX5_split 89 = .ok (.getfield 84, 3) := by decide +kernel
theorem dX5_split_92 : decode cX5_split 92 = .ok (.ireturn, 1) := by decide +kernel
set_option maxRecDepth 20000 in
theorem ggX5_cancel_X5_ledgerAt : GoodIn wsX5_cancel wsX5_ledgerAt := goodIn_ca (goodIn_r _ [11, 1, 2, 12, 13, 14, 10, 15, 16, 121, 122, 123, 124] (by decide +kernel) (by decide +kernel)) (goodIn_sub (fun _ h => List.mem_cons_of_mem _ (List.mem_append_left _ (List.mem_append_right _ h))) (by decide +kernel))
set_option maxRecDepth 20000 in
theorem gX5_cancel_X5_ledgerAt : GoodIn wsX5_cancel (wsV RX5 33 RX5 yX5_ledgerAt wsX5_ledgerAt) := goodIn_app (goodIn_of _ (by decide +kernel)) ggX5_cancel_X5_ledgerAt
set_option maxRecDepth 20000 in
theorem ggX5_cancel_X5_checkCanSpare : GoodIn wsX5_cancel wsX5_checkCanSpare := goodIn_ca (goodIn_r _ [19, 3, 4, 20, 21, 22, 23, 24, 25, 26, 27, 28, 29, 30, 31, 32, 33, 34, 35, 36, 37, 38, 39, 40, 132, 133, 134, 135, 136, 137, 138, 139, 140, 141, 142, 143, 144, 145, 146, 147, 148] (by decide +kernel) (by decide +kernel)) (goodIn_sub (fun _ h => List.mem_cons_of_mem _ (List.mem_append_right _ h)) (by decide +kernel))
set_option maxRecDepth 20000 in
theorem gX5_cancel_X5_checkCanSpare : GoodIn wsX5_cancel (va_wsS RX5 52 yX5_checkCanSpare wsX5_checkCanSpare) := goodIn_app (goodIn_of _ (by decide +kernel)) ggX5_cancel_X5_checkCanSpare
set_option maxRecDepth 20000 in
theorem ggX5_cancel_X1_reckon : GoodIn wsX5_cancel wsX1_reckon := goodIn_r _ [45, 46, 47, 48, 49, 50, 51, 52, 31, 53, 54, 55, 56, 57, 33, 35, 58, 36, 59, 60, 61, 62, 63, 64, 65, 66, 67, 68, 69, 70, 34, 71, 72, 73, 74, 75, 21, 22, 23, 24, 25, 26, 27, 76, 77, 78, 79, 80, 81, 82, 83, 37, 38, 39, 40, 84, 85, 86, 87, 88, 44, 89, 90, 91, 10, 92, 93, 94, 95, 96, 97, 98, 99, 100, 101, 102, 103, 104, 105, 106, 107, 108, 109, 110, 111, 112, 113, 114, 115, 116, 117, 118, 119, 120, 132, 133, 134, 135, 149, 150, 151, 152, 153, 154, 155, 139, 140, 141, 142, 143, 144, 145, 146, 147, 148, 125, 126, 127, 128, 129, 130, 131, 136, 137, 138] (by decide +kernel) (by decide +kernel)
set_option maxRecDepth 20000 in
theorem gX5_cancel_X1_reckon : GoodIn wsX5_cancel (wsV RX5 48 RX1 yX1_reckon wsX1_reckon) := goodIn_app (goodIn_of _ (by decide +kernel)) ggX5_cancel_X1_reckon
theorem dX5_cancel_0 : decode cX5_cancel 0 = .ok (.iload_n 1, 1) := by decide +kernel
theorem dX5_cancel_1 : decode cX5_cancel 1 = .ok (.ifCond .lt 14, 3) := by decide +kernel
theorem dX5_cancel_4 : decode cX5_cancel 4 = .ok (.iload_n 1, 1) := by decide +kernel
theorem dX5_cancel_5 : decode cX5_cancel 5 = .ok (.aload_n 0, 1) := by decide +kernel
theorem dX5_cancel_6 : decode cX5_cancel 6 = .ok (.getfield 10, 3) := by decide +kernel
theorem dX5_cancel_9 : decode cX5_cancel 9 = .ok (.getfield 87, 3) := by decide +kernel
theorem dX5_cancel_12 : decode cX5_cancel 12 = .ok (.if_icmp .lt 13, 3) := by decide +kernel
theorem dX5_cancel_15 : decode cX5_cancel 15 = .ok (.new 88, 3) := by decide +kernel
theorem dX5_cancel_18 : decode cX5_cancel 18 = .ok (.dup, 1) := by decide +kernel
theorem dX5_cancel_19 : decode cX5_cancel 19 = .ok (.ldc 90, 2) := by decide +kernel
theorem dX5_cancel_21 : decode cX5_cancel 21 = .ok (.invokespecial 92, 3) := by decide +kernel
theorem dX5_cancel_24 : decode cX5_cancel 24 = .ok (.athrow, 1) := by decide +kernel
theorem dX5_cancel_25 : decode cX5_cancel 25 = .ok (.aload_n 0, 1) := by decide +kernel
theorem dX5_cancel_26 : decode cX5_cancel 26 = .ok (.getfield 10, 3) := by decide +kernel
theorem dX5_cancel_29 : decode cX5_cancel 29 = .ok (.getfield 93, 3) := by decide +kernel
theorem dX5_cancel_32 : decode cX5_cancel 32 = .ok (.iload_n 1, 1) := by decide +kernel
theorem dX5_cancel_33 : decode cX5_cancel 33 = .ok (.baload, 1) := by decide +kernel
theorem dX5_cancel_34 : decode cX5_cancel 34 = .ok (.ifCond .eq 13, 3) := by decide +kernel
theorem dX5_cancel_37 : decode cX5_cancel 37 = .ok (.new 77, 3) := by decide +kernel
theorem dX5_cancel_40 : decode cX5_cancel 40 = .ok (.dup, 1) := by decide +kernel
theorem dX5_cancel_41 : decode cX5_cancel 41 = .ok (.ldc 97, 2) := by decide +kernel
theorem dX5_cancel_43 : decode cX5_cancel 43 = .ok (.invokespecial 81, 3) := by decide +kernel
theorem dX5_cancel_46 : decode cX5_cancel 46 = .ok (.athrow, 1) := by decide +kernel
theorem dX5_cancel_47 : decode cX5_cancel 47 = .ok (.aload_n 0, 1) := by decide +kernel
theorem dX5_cancel_48 : decode cX5_cancel 48 = .ok (.aload_n 0, 1) := by decide +kernel
theorem dX5_cancel_49 : decode cX5_cancel 49 = .ok (.getfield 10, 3) := by decide +kernel
theorem dX5_cancel_52 : decode cX5_cancel 52 = .ok (.getfield 99, 3) := by decide +kernel
theorem dX5_cancel_55 : decode cX5_cancel 55 = .ok (.iload_n 1, 1) := by decide +kernel
theorem dX5_cancel_56 : decode cX5_cancel 56 = .ok (.iaload, 1) := by decide +kernel
theorem dX5_cancel_57 : decode cX5_cancel 57 = .ok (.aload_n 0, 1) := by decide +kernel
theorem dX5_cancel_58 : decode cX5_cancel 58 = .ok (.getfield 10, 3) := by decide +kernel
theorem dX5_cancel_61 : decode cX5_cancel 61 = .ok (.getfield 102, 3) := by decide +kernel
theorem dX5_cancel_64 : decode cX5_cancel 64 = .ok (.iload_n 1, 1) := by decide +kernel
theorem dX5_cancel_65 : decode cX5_cancel 65 = .ok (.iaload, 1) := by decide +kernel
theorem dX5_cancel_66 : decode cX5_cancel 66 = .ok (.invokevirtual 33, 3) := by decide +kernel
theorem dX5_cancel_69 : decode cX5_cancel 69 = .ok (.astore_n 2, 1) := by decide +kernel
theorem dX5_cancel_70 : decode cX5_cancel 70 = .ok (.aload_n 0, 1) := by decide +kernel
theorem dX5_cancel_71 : decode cX5_cancel 71 = .ok (.getfield 10, 3) := by decide +kernel
theorem dX5_cancel_74 : decode cX5_cancel 74 = .ok (.getfield 105, 3) := by decide +kernel
theorem dX5_cancel_77 : decode cX5_cancel 77 = .ok (.iload_n 1, 1) := by decide +kernel
theorem dX5_cancel_78 : decode cX5_cancel 78 = .ok (.baload, 1) := by decide +kernel
theorem dX5_cancel_79 : decode cX5_cancel 79 = .ok (.ifCond .ne 25, 3) := by decide +kernel
theorem dX5_cancel_82 : decode cX5_cancel 82 = .ok (.aload_n 2, 1) := by decide +kernel
theorem dX5_cancel_83 : decode cX5_cancel 83 = .ok (.aload_n 0, 1) := by decide +kernel
theorem dX5_cancel_84 : decode cX5_cancel 84 = .ok (.getfield 10, 3) := by decide +kernel
theorem dX5_cancel_87 : decode cX5_cancel 87 = .ok (.getfield 102, 3) := by decide +kernel
theorem dX5_cancel_90 : decode cX5_cancel 90 = .ok (.iload_n 1, 1) := by decide +kernel
theorem dX5_cancel_91 : decode cX5_cancel 91 = .ok (.iaload, 1) := by decide +kernel
theorem dX5_cancel_92 : decode cX5_cancel 92 = .ok (.aload_n 0, 1) := by decide +kernel
theorem dX5_cancel_93 : decode cX5_cancel 93 = .ok (.getfield 10, 3) := by decide +kernel
theorem dX5_cancel_96 : decode cX5_cancel 96 = .ok (.getfield 108, 3) := by decide +kernel
theorem dX5_cancel_99 : decode cX5_cancel 99 = .ok (.iload_n 1, 1) := by decide +kernel
theorem dX5_cancel_100 : decode cX5_cancel 100 = .ok (.iaload, 1) := by decide +kernel
theorem dX5_cancel_101 : decode cX5_cancel 101 = .ok (.invokestatic 52, 3) := by decide +kernel
theorem dX5_cancel_104 : decode cX5_cancel 104 = .ok (.aload_n 0, 1) := by decide +kernel
theorem dX5_cancel_105 : decode cX5_cancel 105 = .ok (.getfield 10, 3) := by decide +kernel
theorem dX5_cancel_108 : decode cX5_cancel 108 = .ok (.getfield 93, 3) := by decide +kernel
theorem dX5_cancel_111 : decode cX5_cancel 111 = .ok (.iload_n 1, 1) := by decide +kernel
theorem dX5_cancel_112 : decode cX5_cancel 112 = .ok (.iconst 1, 1) := by decide +kernel
theorem dX5_cancel_113 : decode cX5_cancel 113 = .ok (.bastore, 1) := by decide +kernel
theorem dX5_cancel_114 : decode cX5_cancel 114 = .ok (.aload_n 2, 1) := by decide +kernel
theorem dX5_cancel_115 : decode cX5_cancel 115 = .ok (.aload_n 0, 1) := by decide +kernel
theorem dX5_cancel_116 : decode cX5_cancel 116 = .ok (.getfield 10, 3) := by decide +kernel
theorem dX5_cancel_119 : decode cX5_cancel 119 = .ok (.aload_n 0, 1) := by decide +kernel
theorem dX5_cancel_120 : decode cX5_cancel 120 = .ok (.getfield 29, 3) := by decide +kernel
theorem dX5_cancel_123 : decode cX5_cancel 123 = .ok (.invokevirtual 48, 3) := by decide +kernel
theorem dX5_cancel_126 : decode cX5_cancel 126 = .ok (.return_, 1) := by decide +kernel
set_option maxRecDepth 20000 in
theorem ggX5_setAllowance_X5_checkYear : GoodIn wsX5_setAllowance wsX5_checkYear := goodIn_ca (goodIn_r _ [5, 6, 7] (by decide +kernel) (by decide +kernel)) (goodIn_sub (fun _ h => List.mem_cons_of_mem _ (List.mem_append_left _ (List.mem_append_right _ h))) (by decide +kernel))
set_option maxRecDepth 20000 in
theorem gX5_setAllowance_X5_checkYear : GoodIn wsX5_setAllowance (va_wsS RX5 111 yX5_checkYear wsX5_checkYear) := goodIn_app (goodIn_of _ (by decide +kernel)) ggX5_setAllowance_X5_checkYear
set_option maxRecDepth 20000 in
theorem ggX5_setAllowance_X5_checkMoney : GoodIn wsX5_setAllowance wsX5_checkMoney := goodIn_ca (goodIn_r _ [10, 11, 12, 13] (by decide +kernel) (by decide +kernel)) (goodIn_sub (fun _ h => List.mem_cons_of_mem _ (List.mem_append_right _ h)) (by decide +kernel))
set_option maxRecDepth 20000 in
theorem gX5_setAllowance_X5_checkMoney : GoodIn wsX5_setAllowance (va_wsS RX5 114 yX5_checkMoney wsX5_checkMoney) := goodIn_app (goodIn_of _ (by decide +kernel)) ggX5_setAllowance_X5_checkMoney
theorem dX5_setAllowance_0 : decode cX5_setAllowance 0 = .ok (.iload_n 1, 1) := by decide +kernel
theorem dX5_setAllowance_1 : decode cX5_setAllowance 1 = .ok (.invokestatic 111, 3) := by decide +kernel
theorem dX5_setAllowance_4 : decode cX5_setAllowance 4 = .ok (.iload_n 2, 1) := by decide +kernel
theorem dX5_setAllowance_5 : decode cX5_setAllowance 5 = .ok (.invokestatic 114, 3) := by decide +kernel
theorem dX5_setAllowance_8 : decode cX5_setAllowance 8 = .ok (.aload_n 0, 1) := by decide +kernel
theorem dX5_setAllowance_9 : decode cX5_setAllowance 9 = .ok (.getfield 25, 3) := by decide +kernel
theorem dX5_setAllowance_12 : decode cX5_setAllowance 12 = .ok (.iload_n 1, 1) := by decide +kernel
theorem dX5_setAllowance_13 : decode cX5_setAllowance 13 = .ok (.iaload, 1) := by decide +kernel
theorem dX5_setAllowance_14 : decode cX5_setAllowance 14 = .ok (.istore_n 3, 1) := by decide +kernel
theorem dX5_setAllowance_15 : decode cX5_setAllowance 15 = .ok (.aload_n 0, 1) := by decide +kernel
theorem dX5_setAllowance_16 : decode cX5_setAllowance 16 = .ok (.getfield 25, 3) := by decide +kernel
theorem dX5_setAllowance_19 : decode cX5_setAllowance 19 = .ok (.iload_n 1, 1) := by decide +kernel
theorem dX5_setAllowance_20 : decode cX5_setAllowance 20 = .ok (.iload_n 2, 1) := by decide +kernel
theorem dX5_setAllowance_21 : decode cX5_setAllowance 21 = .ok (.iastore, 1) := by decide +kernel
theorem dX5_setAllowance_22 : decode cX5_setAllowance 22 = .ok (.iload_n 3, 1) := by decide +kernel
theorem dX5_setAllowance_23 : decode cX5_setAllowance 23 = .ok (.ireturn, 1) := by decide +kernel
set_option maxRecDepth 20000 in
theorem ggX5_setWindow_X1_reckon : GoodIn wsX5_setWindow wsX1_reckon := goodIn_r _ [10, 11, 12, 13, 14, 15, 16, 17, 18, 19, 20, 21, 22, 23, 24, 25, 26, 27, 28, 29, 30, 31, 32, 33, 34, 35, 36, 37, 38, 39, 40, 41, 42, 43, 44, 45, 46, 47, 48, 49, 50, 51, 52, 53, 54, 55, 56, 57, 58, 59, 60, 61, 62, 63, 64, 65, 66, 67, 68, 69, 9, 70, 71, 72, 73, 74, 75, 76, 77, 78, 79, 80, 81, 82, 83, 84, 85, 86, 87, 88, 89, 90, 91, 92, 93, 94, 95, 96, 97, 98, 99, 100, 101, 102, 107, 108, 109, 110, 111, 112, 113, 114, 115, 116, 117, 118, 119, 120, 121, 122, 123, 124, 125, 126, 127, 128, 129, 130, 131, 132, 133, 134, 135, 136, 137] (by decide +kernel) (by decide +kernel)
set_option maxRecDepth 20000 in
theorem gX5_setWindow_X1_reckon : GoodIn wsX5_setWindow (wsV RX5 48 RX1 yX1_reckon wsX1_reckon) := goodIn_app (goodIn_of _ (by decide +kernel)) ggX5_setWindow_X1_reckon
theorem dX5_setWindow_0 : decode cX5_setWindow 0 = .ok (.iload_n 1, 1) := by decide +kernel
theorem dX5_setWindow_1 : decode cX5_setWindow 1 = .ok (.ifCond .lt 9, 3) := by decide +kernel
theorem dX5_setWindow_4 : decode cX5_setWindow 4 = .ok (.iload_n 1, 1) := by decide +kernel
theorem dX5_setWindow_5 : decode cX5_setWindow 5 = .ok (.bipush 60, 2) := by decide +kernel
theorem dX5_setWindow_7 : decode cX5_setWindow 7 = .ok (.if_icmp .le 13, 3) := by decide +kernel
theorem dX5_setWindow_10 : decode cX5_setWindow 10 = .ok (.new 56, 3) := by decide +kernel
theorem dX5_setWindow_13 : decode cX5_setWindow 13 = .ok (.dup, 1) := by decide +kernel
theorem dX5_setWindow_14 : decode cX5_setWindow 14 = .ok (.ldc 117, 2) := by decide +kernel
theorem dX5_setWindow_16 : decode cX5_setWindow 16 = .ok (.invokespecial 60, 3) := by decide +kernel
theorem dX5_setWindow_19 : decode cX5_setWindow 19 = .ok (.athrow, 1) := by decide +kernel
theorem dX5_setWindow_20 : decode cX5_setWindow 20 = .ok (.aload_n 0, 1) := by decide +kernel
theorem dX5_setWindow_21 : decode cX5_setWindow 21 = .ok (.getfield 29, 3) := by decide +kernel
theorem dX5_setWindow_24 : decode cX5_setWindow 24 = .ok (.istore_n 2, 1) := by decide +kernel
theorem dX5_setWindow_25 : decode cX5_setWindow 25 = .ok (.aload_n 0, 1) := by decide +kernel
theorem dX5_setWindow_26 : decode cX5_setWindow 26 = .ok (.iload_n 1, 1) := by decide +kernel
theorem dX5_setWindow_27 : decode cX5_setWindow 27 = .ok (.putfield 29, 3) := by decide +kernel
theorem dX5_setWindow_30 : decode cX5_setWindow 30 = .ok (.iconst 0, 1) := by decide +kernel
theorem dX5_setWindow_31 : decode cX5_setWindow 31 = .ok (.istore_n 3, 1) := by decide +kernel
theorem dX5_setWindow_32 : decode cX5_setWindow 32 = .ok (.iload_n 3, 1) := by decide +kernel
theorem dX5_setWindow_33 : decode cX5_setWindow 33 = .ok (.iconst 3, 1) := by decide +kernel
theorem dX5_setWindow_34 : decode cX5_setWindow 34 = .ok (.if_icmp .ge 26, 3) := by decide +kernel
theorem dX5_setWindow_37 : decode cX5_setWindow 37 = .ok (.aload_n 0, 1) := by decide +kernel
theorem dX5_setWindow_38 : decode cX5_setWindow 38 = .ok (.getfield 18, 3) := by decide +kernel
theorem dX5_setWindow_41 : decode cX5_setWindow 41 = .ok (.iload_n 3, 1) := by decide +kernel
theorem dX5_setWindow_42 : decode cX5_setWindow 42 = .ok (.aaload, 1) := by decide +kernel
theorem dX5_setWindow_43 : decode cX5_setWindow 43 = .ok (.aload_n 0, 1) := by decide +kernel
theorem dX5_setWindow_44 : decode cX5_setWindow 44 = .ok (.getfield 10, 3) := by decide +kernel
theorem dX5_setWindow_47 : decode cX5_setWindow 47 = .ok (.aload_n 0, 1) := by decide +kernel
theorem dX5_setWindow_48 : decode cX5_setWindow 48 = .ok (.getfield 29, 3) := by decide +kernel
theorem dX5_setWindow_51 : decode cX5_setWindow 51 = .ok (.invokevirtual 48, 3) := by decide +kernel
theorem dX5_setWindow_54 : decode cX5_setWindow 54 = .ok (.iinc 3 1, 3) := by decide +kernel
theorem dX5_setWindow_57 : decode cX5_setWindow 57 = .ok (.goto (-25), 3) := by decide +kernel
theorem dX5_setWindow_60 : decode cX5_setWindow 60 = .ok (.iload_n 2, 1) := by decide +kernel
theorem dX5_setWindow_61 : decode cX5_setWindow 61 = .ok (.ireturn, 1) := by decide +kernel
theorem dX5_trades_0 : decode cX5_trades 0 = .ok (.aload_n 0, 1) := by decide +kernel
theorem dX5_trades_1 : decode cX5_trades 1 = .ok (.getfield 10, 3) := by decide +kernel
theorem dX5_trades_4 : decode cX5_trades 4 = .ok (.getfield 87, 3) := by decide +kernel
theorem dX5_trades_7 : decode cX5_trades 7 = .ok (.ireturn, 1) := by decide +kernel
set_option maxRecDepth 20000 in
theorem ggX5_holding_X5_ledgerAt : GoodIn wsX5_holding wsX5_ledgerAt := goodIn_ca (goodIn_r _ [6, 7, 8, 9, 10, 11, 5, 12, 13, 36, 37, 38, 39] (by decide +kernel) (by decide +kernel)) (goodIn_sub (fun _ h => List.mem_cons_of_mem _ (List.mem_append_right _ h)) (by decide +kernel))
set_option maxRecDepth 20000 in
theorem gX5_holding_X5_ledgerAt : GoodIn wsX5_holding (wsV RX5 33 RX5 yX5_ledgerAt wsX5_ledgerAt) := goodIn_app (goodIn_of _ (by decide +kernel)) ggX5_holding_X5_ledgerAt
set_option maxRecDepth 20000 in
theorem ggX5_holding_X1_heldShares : GoodIn wsX5_holding wsX1_heldShares := goodIn_r _ [18, 19, 20, 21, 22, 23, 24, 25, 26, 27, 28, 29, 30, 31, 32, 33, 34, 35, 40, 41, 42, 43, 44, 45, 46, 47, 48, 49, 50, 51, 52, 53] (by decide +kernel) (by decide +kernel)
set_option maxRecDepth 20000 in
theorem gX5_holding_X1_heldShares : GoodIn wsX5_holding (wsV RX5 119 RX1 yX1_heldShares wsX1_heldShares) := goodIn_app (goodIn_of _ (by decide +kernel)) ggX5_holding_X1_heldShares
theorem dX5_holding_0 : decode cX5_holding 0 = .ok (.aload_n 0, 1) := by decide +kernel
theorem dX5_holding_1 : decode cX5_holding 1 = .ok (.iload_n 1, 1) := by decide +kernel
theorem dX5_holding_2 : decode cX5_holding 2 = .ok (.iload_n 2, 1) := by decide +kernel
theorem dX5_holding_3 : decode cX5_holding 3 = .ok (.invokevirtual 33, 3) := by decide +kernel
theorem dX5_holding_6 : decode cX5_holding 6 = .ok (.aload_n 0, 1) := by decide +kernel
theorem dX5_holding_7 : decode cX5_holding 7 = .ok (.getfield 10, 3) := by decide +kernel
theorem dX5_holding_10 : decode cX5_holding 10 = .ok (.iload_n 2, 1) := by decide +kernel
theorem dX5_holding_11 : decode cX5_holding 11 = .ok (.invokevirtual 119, 3) := by decide +kernel
theorem dX5_holding_14 : decode cX5_holding 14 = .ok (.ireturn, 1) := by decide +kernel
set_option maxRecDepth 20000 in
theorem ggX5_poolUnits_X5_ledgerAt : GoodIn wsX5_poolUnits wsX5_ledgerAt := goodIn_ca (goodIn_r _ [5, 6, 7, 8, 9, 10, 4, 11, 12, 34, 35, 36, 37] (by decide +kernel) (by decide +kernel)) (goodIn_sub (fun _ h => List.mem_cons_of_mem _ (List.mem_append_right _ h)) (by decide +kernel))
set_option maxRecDepth 20000 in
theorem gX5_poolUnits_X5_ledgerAt : GoodIn wsX5_poolUnits (wsV RX5 33 RX5 yX5_ledgerAt wsX5_ledgerAt) := goodIn_app (goodIn_of _ (by decide +kernel)) ggX5_poolUnits_X5_ledgerAt
set_option maxRecDepth 20000 in
theorem ggX5_poolUnits_X3_lastRowUpTo : GoodIn wsX5_poolUnits wsX3_lastRowUpTo := goodIn_r _ [17, 18, 19, 24, 25, 26, 27, 28, 29, 30, 31, 32, 33] (by decide +kernel) (by decide +kernel)
set_option maxRecDepth 20000 in
theorem gX5_poolUnits_X3_lastRowUpTo : GoodIn wsX5_poolUnits (wsV RX5 127 RX3 yX3_lastRowUpTo wsX3_lastRowUpTo) := goodIn_app (goodIn_of _ (by decide +kernel)) ggX5_poolUnits_X3_lastRowUpTo
theorem dX5_poolUnits_0 : decode cX5_poolUnits 0 = .ok (.aload_n 0, 1) := by decide +kernel
theorem dX5_poolUnits_1 : decode cX5_poolUnits 1 = .ok (.iload_n 1, 1) := by decide +kernel
theorem dX5_poolUnits_2 : decode cX5_poolUnits 2 = .ok (.iload_n 2, 1) := by decide +kernel
theorem dX5_poolUnits_3 : decode cX5_poolUnits 3 = .ok (.invokevirtual 33, 3) := by decide +kernel
theorem dX5_poolUnits_6 : decode cX5_poolUnits 6 = .ok (.getfield 123, 3) := by decide +kernel
theorem dX5_poolUnits_9 : decode cX5_poolUnits 9 = .ok (.astore_n 3, 1) := by decide +kernel
theorem dX5_poolUnits_10 : decode cX5_poolUnits 10 = .ok (.aload_n 3, 1) := by decide +kernel
theorem dX5_poolUnits_11 : decode cX5_poolUnits 11 = .ok (.iload_n 2, 1) := by decide +kernel
theorem dX5_poolUnits_12 : decode cX5_poolUnits 12 = .ok (.invokevirtual 127, 3) := by decide +kernel
theorem dX5_poolUnits_15 : decode cX5_poolUnits 15 = .ok (.istore 4, 2) := by decide +kernel
theorem dX5_poolUnits_17 : decode cX5_poolUnits 17 = .ok (.iload 4, 2) := by decide +kernel
theorem dX5_poolUnits_19 : decode cX5_poolUnits 19 = .ok (.ifCond .ge 7, 3) := by decide +kernel
theorem dX5_poolUnits_22 : decode cX5_poolUnits 22 = .ok (.iconst 0, 1) := by decide +kernel
theorem dX5_poolUnits_23 : decode cX5_poolUnits 23 = .ok (.goto 10, 3) := by decide +kernel
theorem dX5_poolUnits_26 : decode cX5_poolUnits 26 = .ok (.aload_n 3, 1) := by decide +kernel
theorem dX5_poolUnits_27 : decode cX5_poolUnits 27 = .ok (.getfield 133, 3) := by decide +kernel
theorem dX5_poolUnits_30 : decode cX5_poolUnits 30 = .ok (.iload 4, 2) := by decide +kernel
theorem dX5_poolUnits_32 : decode cX5_poolUnits 32 = .ok (.iaload, 1) := by decide +kernel
theorem dX5_poolUnits_33 : decode cX5_poolUnits 33 = .ok (.ireturn, 1) := by decide +kernel
set_option maxRecDepth 20000 in
theorem ggX5_poolCost_X5_ledgerAt : GoodIn wsX5_poolCost wsX5_ledgerAt := goodIn_ca (goodIn_r _ [5, 6, 7, 8, 9, 10, 4, 11, 12, 34, 35, 36, 37] (by decide +kernel) (by decide +kernel)) (goodIn_sub (fun _ h => List.mem_cons_of_mem _ (List.mem_append_right _ h)) (by decide +kernel))
set_option maxRecDepth 20000 in
theorem gX5_poolCost_X5_ledgerAt : GoodIn wsX5_poolCost (wsV RX5 33 RX5 yX5_ledgerAt wsX5_ledgerAt) := goodIn_app (goodIn_of _ (by decide +kernel)) ggX5_poolCost_X5_ledgerAt
set_option maxRecDepth 20000 in
theorem ggX5_poolCost_X3_lastRowUpTo : GoodIn wsX5_poolCost wsX3_lastRowUpTo := goodIn_r _ [17, 18, 19, 24, 25, 26, 27, 28, 29, 30, 31, 32, 33] (by decide +kernel) (by decide +kernel)
set_option maxRecDepth 20000 in
theorem gX5_poolCost_X3_lastRowUpTo : GoodIn wsX5_poolCost (wsV RX5 127 RX3 yX3_lastRowUpTo wsX3_lastRowUpTo) := goodIn_app (goodIn_of _ (by decide +kernel)) ggX5_poolCost_X3_lastRowUpTo
theorem dX5_poolCost_0 : decode cX5_poolCost 0 = .ok (.aload_n 0, 1) := by decide +kernel
theorem dX5_poolCost_1 : decode cX5_poolCost 1 = .ok (.iload_n 1, 1) := by decide +kernel
theorem dX5_poolCost_2 : decode cX5_poolCost 2 = .ok (.iload_n 2, 1) := by decide +kernel
theorem dX5_poolCost_3 : decode cX5_poolCost 3 = .ok (.invokevirtual 33, 3) := by decide +kernel
theorem dX5_poolCost_6 : decode cX5_poolCost 6 = .ok (.getfield 123, 3) := by decide +kernel
theorem dX5_poolCost_9 : decode cX5_poolCost 9 = .ok (.astore_n 3, 1) := by decide +kernel
theorem dX5_poolCost_10 : decode cX5_poolCost 10 = .ok (.aload_n 3, 1) := by decide +kernel
theorem dX5_poolCost_11 : decode cX5_poolCost 11 = .ok (.iload_n 2, 1) := by decide +kernel
theorem dX5_poolCost_12 : decode cX5_poolCost 12 = .ok (.invokevirtual 127, 3) := by decide +kernel
theorem dX5_poolCost_15 : decode cX5_poolCost 15 = .ok (.istore 4, 2) := by decide +kernel
theorem dX5_poolCost_17 : decode cX5_poolCost 17 = .ok (.iload 4, 2) := by decide +kernel
theorem dX5_poolCost_19 : decode cX5_poolCost 19 = .ok (.ifCond .ge 7, 3) := by decide +kernel
theorem dX5_poolCost_22 : decode cX5_poolCost 22 = .ok (.iconst 0, 1) := by decide +kernel
theorem dX5_poolCost_23 : decode cX5_poolCost 23 = .ok (.goto 10, 3) := by decide +kernel
theorem dX5_poolCost_26 : decode cX5_poolCost 26 = .ok (.aload_n 3, 1) := by decide +kernel
theorem dX5_poolCost_27 : decode cX5_poolCost 27 = .ok (.getfield 136, 3) := by decide +kernel
theorem dX5_poolCost_30 : decode cX5_poolCost 30 = .ok (.iload 4, 2) := by decide +kernel
theorem dX5_poolCost_32 : decode cX5_poolCost 32 = .ok (.iaload, 1) := by decide +kernel
theorem dX5_poolCost_33 : decode cX5_poolCost 33 = .ok (.ireturn, 1) := by decide +kernel
set_option maxRecDepth 20000 in
theorem ggX5_costIn_X5_ledgerOf : GoodIn wsX5_costIn wsX5_ledgerOf := goodIn_ca (goodIn_r _ [5, 6, 7, 8, 20, 21, 22, 23] (by decide +kernel) (by decide +kernel)) (goodIn_sub (fun _ h => List.mem_cons_of_mem _ (List.mem_append_right _ h)) (by decide +kernel))
set_option maxRecDepth 20000 in
theorem gX5_costIn_X5_ledgerOf : GoodIn wsX5_costIn (wsV RX5 139 RX5 yX5_ledgerOf wsX5_ledgerOf) := goodIn_app (goodIn_of _ (by decide +kernel)) ggX5_costIn_X5_ledgerOf
set_option maxRecDepth 20000 in
theorem ggX5_costIn_X3_costOfBuys : GoodIn wsX5_costIn wsX3_costOfBuys := goodIn_r _ [13, 14, 15, 24, 25, 26, 27, 28, 29, 30, 31, 32, 33] (by decide +kernel) (by decide +kernel)
set_option maxRecDepth 20000 in
theorem gX5_costIn_X3_costOfBuys : GoodIn wsX5_costIn (wsV RX5 143 RX3 yX3_costOfBuys wsX3_costOfBuys) := goodIn_app (goodIn_of _ (by decide +kernel)) ggX5_costIn_X3_costOfBuys
theorem dX5_costIn_0 : decode cX5_costIn 0 = .ok (.aload_n 0, 1) := by decide +kernel
theorem dX5_costIn_1 : decode cX5_costIn 1 = .ok (.iload_n 1, 1) := by decide +kernel
theorem dX5_costIn_2 : decode cX5_costIn 2 = .ok (.invokevirtual 139, 3) := by decide +kernel
theorem dX5_costIn_5 : decode cX5_costIn 5 = .ok (.getfield 123, 3) := by decide +kernel
theorem dX5_costIn_8 : decode cX5_costIn 8 = .ok (.invokevirtual 143, 3) := by decide +kernel
theorem dX5_costIn_11 : decode cX5_costIn 11 = .ok (.ireturn, 1) := by decide +kernel
set_option maxRecDepth 20000 in
theorem ggX5_costMatched_X5_ledgerOf : GoodIn wsX5_costMatched wsX5_ledgerOf := goodIn_ca (goodIn_r _ [5, 6, 7, 8, 20, 21, 22, 23] (by decide +kernel) (by decide +kernel)) (goodIn_sub (fun _ h => List.mem_cons_of_mem _ (List.mem_append_right _ h)) (by decide +kernel))
set_option maxRecDepth 20000 in
theorem gX5_costMatched_X5_ledgerOf : GoodIn wsX5_costMatched (wsV RX5 139 RX5 yX5_ledgerOf wsX5_ledgerOf) := goodIn_app (goodIn_of _ (by decide +kernel)) ggX5_costMatched_X5_ledgerOf
set_option maxRecDepth 20000 in
theorem ggX5_costMatched_X2_costOfAll : GoodIn wsX5_costMatched wsX2_costOfAll := goodIn_r _ [13, 14, 15, 24, 25, 26, 27, 28, 29, 30] (by decide +kernel) (by decide +kernel)
set_option maxRecDepth 20000 in
theorem gX5_costMatched_X2_costOfAll : GoodIn wsX5_costMatched (wsV RX5 151 RX2 yX2_costOfAll wsX2_costOfAll) := goodIn_app (goodIn_of _ (by decide +kernel)) ggX5_costMatched_X2_costOfAll
theorem dX5_costMatched_0 : decode cX5_costMatched 0 = .ok (.aload_n 0, 1) := by decide +kernel
theorem dX5_costMatched_1 : decode cX5_costMatched 1 = .ok (.iload_n 1, 1) := by decide +kernel
theorem dX5_costMatched_2 : decode cX5_costMatched 2 = .ok (.invokevirtual 139, 3) := by decide +kernel
theorem dX5_costMatched_5 : decode cX5_costMatched 5 = .ok (.getfield 147, 3) := by decide +kernel
theorem dX5_costMatched_8 : decode cX5_costMatched 8 = .ok (.invokevirtual 151, 3) := by decide +kernel
theorem dX5_costMatched_11 : decode cX5_costMatched 11 = .ok (.ireturn, 1) := by decide +kernel
set_option maxRecDepth 20000 in
theorem ggX5_matches_X5_ledgerOf : GoodIn wsX5_matches wsX5_ledgerOf := goodIn_ca (goodIn_r _ [5, 6, 7, 8, 20, 21, 22, 23] (by decide +kernel) (by decide +kernel)) (goodIn_sub (fun _ h => List.mem_cons_of_mem _ (List.mem_append_right _ h)) (by decide +kernel))
set_option maxRecDepth 20000 in
theorem gX5_matches_X5_ledgerOf : GoodIn wsX5_matches (wsV RX5 139 RX5 yX5_ledgerOf wsX5_ledgerOf) := goodIn_app (goodIn_of _ (by decide +kernel)) ggX5_matches_X5_ledgerOf
theorem dX5_matches_0 : decode cX5_matches 0 = .ok (.aload_n 0, 1) := by decide +kernel
theorem dX5_matches_1 : decode cX5_matches 1 = .ok (.iload_n 1, 1) := by decide +kernel
theorem dX5_matches_2 : decode cX5_matches 2 = .ok (.invokevirtual 139, 3) := by decide +kernel
theorem dX5_matches_5 : decode cX5_matches 5 = .ok (.getfield 147, 3) := by decide +kernel
theorem dX5_matches_8 : decode cX5_matches 8 = .ok (.getfield 156, 3) := by decide +kernel
theorem dX5_matches_11 : decode cX5_matches 11 = .ok (.ireturn, 1) := by decide +kernel
set_option maxRecDepth 20000 in
theorem ggX5_kindOf_X5_matchesWith : GoodIn wsX5_kindOf wsX5_matchesWith := goodIn_ca (goodIn_r _ [5, 6, 7, 8, 9, 10, 4, 11, 12, 20, 21, 22, 23, 13, 14, 15, 16, 17, 18, 19, 24, 25, 26, 27] (by decide +kernel) (by decide +kernel)) (goodIn_sub (fun _ h => List.mem_cons_of_mem _ (List.mem_append_right _ h)) (by decide +kernel))
set_option maxRecDepth 20000 in
theorem gX5_kindOf_X5_matchesWith : GoodIn wsX5_kindOf (wsV RX5 157 RX5 yX5_matchesWith wsX5_matchesWith) := goodIn_app (goodIn_of _ (by decide +kernel)) ggX5_kindOf_X5_matchesWith
theorem dX5_kindOf_0 : decode cX5_kindOf 0 = .ok (.aload_n 0, 1) := by decide +kernel
theorem dX5_kindOf_1 : decode cX5_kindOf 1 = .ok (.iload_n 1, 1) := by decide +kernel
theorem dX5_kindOf_2 : decode cX5_kindOf 2 = .ok (.iload_n 2, 1) := by decide +kernel
theorem dX5_kindOf_3 : decode cX5_kindOf 3 = .ok (.invokevirtual 157, 3) := by decide +kernel
theorem dX5_kindOf_6 : decode cX5_kindOf 6 = .ok (.getfield 161, 3) := by decide +kernel
theorem dX5_kindOf_9 : decode cX5_kindOf 9 = .ok (.iload_n 2, 1) := by decide +kernel
theorem dX5_kindOf_10 : decode cX5_kindOf 10 = .ok (.iaload, 1) := by decide +kernel
theorem dX5_kindOf_11 : decode cX5_kindOf 11 = .ok (.ireturn, 1) := by decide +kernel
set_option maxRecDepth 20000 in
theorem ggX5_saleDay_X5_matchesWith : GoodIn wsX5_saleDay wsX5_matchesWith := goodIn_ca (goodIn_r _ [5, 6, 7, 8, 9, 10, 4, 11, 12, 20, 21, 22, 23, 13, 14, 15, 16, 17, 18, 19, 24, 25, 26, 27] (by decide +kernel) (by decide +kernel)) (goodIn_sub (fun _ h => List.mem_cons_of_mem _ (List.mem_append_right _ h)) (by decide +kernel))
set_option maxRecDepth 20000 in
theorem gX5_saleDay_X5_matchesWith : GoodIn wsX5_saleDay (wsV RX5 157 RX5 yX5_matchesWith wsX5_matchesWith) := goodIn_app (goodIn_of _ (by decide +kernel)) ggX5_saleDay_X5_matchesWith
theorem dX5_saleDay_0 : decode cX5_saleDay 0 = .ok (.aload_n 0, 1) := by decide +kernel
theorem dX5_saleDay_1 : decode cX5_saleDay 1 = .ok (.iload_n 1, 1) := by decide +kernel
theorem dX5_saleDay_2 : decode cX5_saleDay 2 = .ok (.iload_n 2, 1) := by decide +kernel
theorem dX5_saleDay_3 : decode cX5_saleDay 3 = .ok (.invokevirtual 157, 3) := by decide +kernel
theorem dX5_saleDay_6 : decode cX5_saleDay 6 = .ok (.getfield 164, 3) := by decide +kernel
theorem dX5_saleDay_9 : decode cX5_saleDay 9 = .ok (.iload_n 2, 1) := by decide +kernel
theorem dX5_saleDay_10 : decode cX5_saleDay 10 = .ok (.iaload, 1) := by decide +kernel
theorem dX5_saleDay_11 : decode cX5_saleDay 11 = .ok (.ireturn, 1) := by decide +kernel
set_option maxRecDepth 20000 in
theorem ggX5_buyDay_X5_matchesWith : GoodIn wsX5_buyDay wsX5_matchesWith := goodIn_ca (goodIn_r _ [5, 6, 7, 8, 9, 10, 4, 11, 12, 20, 21, 22, 23, 13, 14, 15, 16, 17, 18, 19, 24, 25, 26, 27] (by decide +kernel) (by decide +kernel)) (goodIn_sub (fun _ h => List.mem_cons_of_mem _ (List.mem_append_right _ h)) (by decide +kernel))
set_option maxRecDepth 20000 in
theorem gX5_buyDay_X5_matchesWith : GoodIn wsX5_buyDay (wsV RX5 157 RX5 yX5_matchesWith wsX5_matchesWith) := goodIn_app (goodIn_of _ (by decide +kernel)) ggX5_buyDay_X5_matchesWith
theorem dX5_buyDay_0 : decode cX5_buyDay 0 = .ok (.aload_n 0, 1) := by decide +kernel
theorem dX5_buyDay_1 : decode cX5_buyDay 1 = .ok (.iload_n 1, 1) := by decide +kernel
theorem dX5_buyDay_2 : decode cX5_buyDay 2 = .ok (.iload_n 2, 1) := by decide +kernel
theorem dX5_buyDay_3 : decode cX5_buyDay 3 = .ok (.invokevirtual 157, 3) := by decide +kernel
theorem dX5_buyDay_6 : decode cX5_buyDay 6 = .ok (.getfield 167, 3) := by decide +kernel
theorem dX5_buyDay_9 : decode cX5_buyDay 9 = .ok (.iload_n 2, 1) := by decide +kernel
theorem dX5_buyDay_10 : decode cX5_buyDay 10 = .ok (.iaload, 1) := by decide +kernel
theorem dX5_buyDay_11 : decode cX5_buyDay 11 = .ok (.ireturn, 1) := by decide +kernel
set_option maxRecDepth 20000 in
theorem ggX5_unitsOf_X5_matchesWith : GoodIn wsX5_unitsOf wsX5_matchesWith := goodIn_ca (goodIn_r _ [5, 6, 7, 8, 9, 10, 4, 11, 12, 20, 21, 22, 23, 13, 14, 15, 16, 17, 18, 19, 24, 25, 26, 27] (by decide +kernel) (by decide +kernel)) (goodIn_sub (fun _ h => List.mem_cons_of_mem _ (List.mem_append_right _ h)) (by decide +kernel))
set_option maxRecDepth 20000 in
theorem gX5_unitsOf_X5_matchesWith : GoodIn wsX5_unitsOf (wsV RX5 157 RX5 yX5_matchesWith wsX5_matchesWith) := goodIn_app (goodIn_of _ (by decide +kernel)) ggX5_unitsOf_X5_matchesWith
theorem dX5_unitsOf_0 : decode cX5_unitsOf 0 = .ok (.aload_n 0, 1) := by decide +kernel
theorem dX5_unitsOf_1 : decode cX5_unitsOf 1 = .ok (.iload_n 1, 1) := by decide +kernel
theorem dX5_unitsOf_2 : decode cX5_unitsOf 2 = .ok (.iload_n 2, 1) := by decide +kernel
theorem dX5_unitsOf_3 : decode cX5_unitsOf 3 = .ok (.invokevirtual 157, 3) := by decide +kernel
theorem dX5_unitsOf_6 : decode cX5_unitsOf 6 = .ok (.getfield 170, 3) := by decide +kernel
theorem dX5_unitsOf_9 : decode cX5_unitsOf 9 = .ok (.iload_n 2, 1) := by decide +kernel
theorem dX5_unitsOf_10 : decode cX5_unitsOf 10 = .ok (.iaload, 1) := by decide +kernel
theorem dX5_unitsOf_11 : decode cX5_unitsOf 11 = .ok (.ireturn, 1) := by decide +kernel
set_option maxRecDepth 20000 in
theorem ggX5_costOf_X5_matchesWith : GoodIn wsX5_costOf wsX5_matchesWith := goodIn_ca (goodIn_r _ [5, 6, 7, 8, 9, 10, 4, 11, 12, 20, 21, 22, 23, 13, 14, 15, 16, 17, 18, 19, 24, 25, 26, 27] (by decide +kernel) (by decide +kernel)) (goodIn_sub (fun _ h => List.mem_cons_of_mem _ (List.mem_append_right _ h)) (by decide +kernel))
set_option maxRecDepth 20000 in
theorem gX5_costOf_X5_matchesWith : GoodIn wsX5_costOf (wsV RX5 157 RX5 yX5_matchesWith wsX5_matchesWith) := goodIn_app (goodIn_of _ (by decide +kernel)) ggX5_costOf_X5_matchesWith
theorem dX5_costOf_0 : decode cX5_costOf 0 = .ok (.aload_n 0, 1) := by decide +kernel
theorem dX5_costOf_1 : decode cX5_costOf 1 = .ok (.iload_n 1, 1) := by decide +kernel
theorem dX5_costOf_2 : decode cX5_costOf 2 = .ok (.iload_n 2, 1) := by decide +kernel
theorem dX5_costOf_3 : decode cX5_costOf 3 = .ok (.invokevirtual 157, 3) := by decide +kernel
theorem dX5_costOf_6 : decode cX5_costOf 6 = .ok (.getfield 173, 3) := by decide +kernel
theorem dX5_costOf_9 : decode cX5_costOf 9 = .ok (.iload_n 2, 1) := by decide +kernel
theorem dX5_costOf_10 : decode cX5_costOf 10 = .ok (.iaload, 1) := by decide +kernel
theorem dX5_costOf_11 : decode cX5_costOf 11 = .ok (.ireturn, 1) := by decide +kernel
set_option maxRecDepth 20000 in
theorem ggX5_proceedsOf_X5_matchesWith : GoodIn wsX5_proceedsOf wsX5_matchesWith := goodIn_ca (goodIn_r _ [5, 6, 7, 8, 9, 10, 4, 11, 12, 20, 21, 22, 23, 13, 14, 15, 16, 17, 18, 19, 24, 25, 26, 27] (by decide +kernel) (by decide +kernel)) (goodIn_sub (fun _ h => List.mem_cons_of_mem _ (List.mem_append_right _ h)) (by decide +kernel))
set_option maxRecDepth 20000 in
theorem gX5_proceedsOf_X5_matchesWith : GoodIn wsX5_proceedsOf (wsV RX5 157 RX5 yX5_matchesWith wsX5_matchesWith) := goodIn_app (goodIn_of _ (by decide +kernel)) ggX5_proceedsOf_X5_matchesWith
theorem dX5_proceedsOf_0 : decode cX5_proceedsOf 0 = .ok (.aload_n 0, 1) := by decide +kernel
theorem dX5_proceedsOf_1 : decode cX5_proceedsOf 1 = .ok (.iload_n 1, 1) := by decide +kernel
theorem dX5_proceedsOf_2 : decode cX5_proceedsOf 2 = .ok (.iload_n 2, 1) := by decide +kernel
theorem dX5_proceedsOf_3 : decode cX5_proceedsOf 3 = .ok (.invokevirtual 157, 3) := by decide +kernel
theorem dX5_proceedsOf_6 : decode cX5_proceedsOf 6 = .ok (.getfield 176, 3) := by decide +kernel
theorem dX5_proceedsOf_9 : decode cX5_proceedsOf 9 = .ok (.iload_n 2, 1) := by decide +kernel
theorem dX5_proceedsOf_10 : decode cX5_proceedsOf 10 = .ok (.iaload, 1) := by decide +kernel
theorem dX5_proceedsOf_11 : decode cX5_proceedsOf 11 = .ok (.ireturn, 1) := by decide +kernel
set_option maxRecDepth 20000 in
theorem ggX5_gain_X5_ledgerOf : GoodIn wsX5_gain wsX5_ledgerOf := goodIn_ca (goodIn_r _ [5, 6, 7, 8, 25, 26, 27, 28] (by decide +kernel) (by decide +kernel)) (goodIn_sub (fun _ h => List.mem_cons_of_mem _ (List.mem_append_right _ h)) (by decide +kernel))
set_option maxRecDepth 20000 in
theorem gX5_gain_X5_ledgerOf : GoodIn wsX5_gain (wsV RX5 139 RX5 yX5_ledgerOf wsX5_ledgerOf) := goodIn_app (goodIn_of _ (by decide +kernel)) ggX5_gain_X5_ledgerOf
set_option maxRecDepth 20000 in
theorem ggX5_gain_X5_checkYear : GoodIn wsX5_gain wsX5_checkYear := goodIn_ca (goodIn_r _ [11, 6, 7] (by decide +kernel) (by decide +kernel)) (goodIn_sub (fun _ h => List.mem_cons_of_mem _ (List.mem_append_right _ h)) (by decide +kernel))
set_option maxRecDepth 20000 in
theorem gX5_gain_X5_checkYear : GoodIn wsX5_gain (va_wsS RX5 111 yX5_checkYear wsX5_checkYear) := goodIn_app (goodIn_of _ (by decide +kernel)) ggX5_gain_X5_checkYear
set_option maxRecDepth 20000 in
theorem ggX5_gain_X2_gainOfYear : GoodIn wsX5_gain wsX2_gainOfYear := goodIn_r _ [16, 17, 18, 19, 20, 29, 30, 31, 32, 33, 34, 35] (by decide +kernel) (by decide +kernel)
set_option maxRecDepth 20000 in
theorem gX5_gain_X2_gainOfYear : GoodIn wsX5_gain (wsV RX5 179 RX2 yX2_gainOfYear wsX2_gainOfYear) := goodIn_app (goodIn_of _ (by decide +kernel)) ggX5_gain_X2_gainOfYear
theorem dX5_gain_0 : decode cX5_gain 0 = .ok (.aload_n 0, 1) := by decide +kernel
theorem dX5_gain_1 : decode cX5_gain 1 = .ok (.iload_n 1, 1) := by decide +kernel
theorem dX5_gain_2 : decode cX5_gain 2 = .ok (.invokevirtual 139, 3) := by decide +kernel
theorem dX5_gain_5 : decode cX5_gain 5 = .ok (.astore_n 3, 1) := by decide +kernel
theorem dX5_gain_6 : decode cX5_gain 6 = .ok (.iload_n 2, 1) := by decide +kernel
theorem dX5_gain_7 : decode cX5_gain 7 = .ok (.invokestatic 111, 3) := by decide +kernel
theorem dX5_gain_10 : decode cX5_gain 10 = .ok (.aload_n 3, 1) := by decide +kernel
theorem dX5_gain_11 : decode cX5_gain 11 = .ok (.getfield 147, 3) := by decide +kernel
theorem dX5_gain_14 : decode cX5_gain 14 = .ok (.iload_n 2, 1) := by decide +kernel
theorem dX5_gain_15 : decode cX5_gain 15 = .ok (.invokevirtual 179, 3) := by decide +kernel
theorem dX5_gain_18 : decode cX5_gain 18 = .ok (.ireturn, 1) := by decide +kernel
set_option maxRecDepth 20000 in
theorem ggX5_net_X5_checkYear : GoodIn wsX5_net wsX5_checkYear := goodIn_ca (goodIn_r _ [4, 5, 6] (by decide +kernel) (by decide +kernel)) (goodIn_sub (fun _ h => List.mem_cons_of_mem _ (List.mem_append_right _ h)) (by decide +kernel))
set_option maxRecDepth 20000 in
theorem gX5_net_X5_checkYear : GoodIn wsX5_net (va_wsS RX5 111 yX5_checkYear wsX5_checkYear) := goodIn_app (goodIn_of _ (by decide +kernel)) ggX5_net_X5_checkYear
set_option maxRecDepth 20000 in
theorem ggX5_net_X5_netOfYear : GoodIn wsX5_net wsX5_netOfYear := goodIn_r _ [10, 11, 12, 13, 14, 15, 16, 17, 18, 19, 20, 21, 22, 23, 24, 25, 26, 27, 28, 29, 30, 31, 32, 33, 34, 35] (by decide +kernel) (by decide +kernel)
set_option maxRecDepth 20000 in
theorem gX5_net_X5_netOfYear : GoodIn wsX5_net (wsV RX5 182 RX5 yX5_netOfYear wsX5_netOfYear) := goodIn_app (goodIn_of _ (by decide +kernel)) ggX5_net_X5_netOfYear
theorem dX5_net_0 : decode cX5_net 0 = .ok (.iload_n 1, 1) := by decide +kernel
theorem dX5_net_1 : decode cX5_net 1 = .ok (.invokestatic 111, 3) := by decide +kernel
theorem dX5_net_4 : decode cX5_net 4 = .ok (.aload_n 0, 1) := by decide +kernel
theorem dX5_net_5 : decode cX5_net 5 = .ok (.iload_n 1, 1) := by decide +kernel
theorem dX5_net_6 : decode cX5_net 6 = .ok (.invokevirtual 182, 3) := by decide +kernel
theorem dX5_net_9 : decode cX5_net 9 = .ok (.ireturn, 1) := by decide +kernel
set_option maxRecDepth 20000 in
theorem ggX5_carried_X5_checkYear : GoodIn wsX5_carried wsX5_checkYear := goodIn_ca (goodIn_r _ [4, 5, 6] (by decide +kernel) (by decide +kernel)) (goodIn_sub (fun _ h => List.mem_cons_of_mem _ (List.mem_append_right _ h)) (by decide +kernel))
set_option maxRecDepth 20000 in
theorem gX5_carried_X5_checkYear : GoodIn wsX5_carried (va_wsS RX5 111 yX5_checkYear wsX5_checkYear) := goodIn_app (goodIn_of _ (by decide +kernel)) ggX5_carried_X5_checkYear
set_option maxRecDepth 20000 in
theorem ggX5_carried_X5_lossesOutOf : GoodIn wsX5_carried wsX5_lossesOutOf := goodIn_r _ [10, 11, 12, 13, 14, 15, 16, 17, 3, 18, 19, 20, 21, 22, 23, 24, 25, 26, 27, 28, 29, 30, 31, 32, 33, 34, 35, 36, 37, 38, 39, 40, 41, 42, 43, 44, 45, 46, 47, 48, 49, 50, 51] (by decide +kernel) (by decide +kernel)
set_option maxRecDepth 20000 in
theorem gX5_carried_X5_lossesOutOf : GoodIn wsX5_carried (wsV RX5 185 RX5 yX5_lossesOutOf wsX5_lossesOutOf) := goodIn_app (goodIn_of _ (by decide +kernel)) ggX5_carried_X5_lossesOutOf
theorem dX5_carried_0 : decode cX5_carried 0 = .ok (.iload_n 1, 1) := by decide +kernel
theorem dX5_carried_1 : decode cX5_carried 1 = .ok (.invokestatic 111, 3) := by decide +kernel
theorem dX5_carried_4 : decode cX5_carried 4 = .ok (.aload_n 0, 1) := by decide +kernel
theorem dX5_carried_5 : decode cX5_carried 5 = .ok (.iload_n 1, 1) := by decide +kernel
theorem dX5_carried_6 : decode cX5_carried 6 = .ok (.invokevirtual 185, 3) := by decide +kernel
theorem dX5_carried_9 : decode cX5_carried 9 = .ok (.ireturn, 1) := by decide +kernel
set_option maxRecDepth 20000 in
theorem ggX5_taxable_X5_checkYear : GoodIn wsX5_taxable wsX5_checkYear := goodIn_ca (goodIn_r _ [8, 9, 10] (by decide +kernel) (by decide +kernel)) (goodIn_sub (fun _ h => List.mem_cons_of_mem _ (List.mem_append_right _ h)) (by decide +kernel))
set_option maxRecDepth 20000 in
theorem gX5_taxable_X5_checkYear : GoodIn wsX5_taxable (va_wsS RX5 111 yX5_checkYear wsX5_checkYear) := goodIn_app (goodIn_of _ (by decide +kernel)) ggX5_taxable_X5_checkYear
set_option maxRecDepth 20000 in
theorem ggX5_taxable_X5_aboveAllowance : GoodIn wsX5_taxable wsX5_aboveAllowance := goodIn_r _ [14, 15, 16, 17, 3, 18, 19, 20, 21, 7, 22, 23, 24, 25, 26, 27, 28, 29, 30, 31, 32, 37, 38, 39, 40, 41, 42, 43, 44, 45, 46, 47, 48, 49, 50, 51] (by decide +kernel) (by decide +kernel)
set_option maxRecDepth 20000 in
theorem gX5_taxable_X5_aboveAllowance : GoodIn wsX5_taxable (wsV RX5 188 RX5 yX5_aboveAllowance wsX5_aboveAllowance) := goodIn_app (goodIn_of _ (by decide +kernel)) ggX5_taxable_X5_aboveAllowance
set_option maxRecDepth 20000 in
theorem ggX5_taxable_X5_lossesOutOf : GoodIn wsX5_taxable wsX5_lossesOutOf := goodIn_r _ [36, 1, 2, 3, 4, 19, 20, 21, 7, 22, 23, 24, 25, 26, 27, 28, 29, 30, 31, 32, 11, 12, 13, 14, 15, 16, 17, 18, 37, 38, 39, 40, 41, 42, 43, 44, 45, 46, 47, 48, 49, 50, 51] (by decide +kernel) (by decide +kernel)
set_option maxRecDepth 20000 in
theorem gX5_taxable_X5_lossesOutOf : GoodIn wsX5_taxable (wsV RX5 185 RX5 yX5_lossesOutOf wsX5_lossesOutOf) := goodIn_app (goodIn_of _ (by decide +kernel)) ggX5_taxable_X5_lossesOutOf
theorem dX5_taxable_0 : decode cX5_taxable 0 = .ok (.iload_n 1, 1) := by decide +kernel
theorem dX5_taxable_1 : decode cX5_taxable 1 = .ok (.invokestatic 111, 3) := by decide +kernel
theorem dX5_taxable_4 : decode cX5_taxable 4 = .ok (.aload_n 0, 1) := by decide +kernel
theorem dX5_taxable_5 : decode cX5_taxable 5 = .ok (.iload_n 1, 1) := by decide +kernel
theorem dX5_taxable_6 : decode cX5_taxable 6 = .ok (.invokevirtual 188, 3) := by decide +kernel
theorem dX5_taxable_9 : decode cX5_taxable 9 = .ok (.istore_n 2, 1) := by decide +kernel
theorem dX5_taxable_10 : decode cX5_taxable 10 = .ok (.iload_n 2, 1) := by decide +kernel
theorem dX5_taxable_11 : decode cX5_taxable 11 = .ok (.aload_n 0, 1) := by decide +kernel
theorem dX5_taxable_12 : decode cX5_taxable 12 = .ok (.iload_n 1, 1) := by decide +kernel
theorem dX5_taxable_13 : decode cX5_taxable 13 = .ok (.iconst 1, 1) := by decide +kernel
theorem dX5_taxable_14 : decode cX5_taxable 14 = .ok (.isub, 1) := by decide +kernel
theorem dX5_taxable_15 : decode cX5_taxable 15 = .ok (.invokevirtual 185, 3) := by decide +kernel
theorem dX5_taxable_18 : decode cX5_taxable 18 = .ok (.iload_n 2, 1) := by decide +kernel
theorem dX5_taxable_19 : decode cX5_taxable 19 = .ok (.invokestatic 191, 3) := by decide +kernel
theorem dX5_taxable_22 : decode cX5_taxable 22 = .ok (.isub, 1) := by decide +kernel
theorem dX5_taxable_23 : decode cX5_taxable 23 = .ok (.ireturn, 1) := by decide +kernel
set_option maxRecDepth 20000 in
theorem ggX5_netOfYear_X2_gainOfYear : GoodIn wsX5_netOfYear wsX2_gainOfYear := goodIn_r _ [6, 7, 8, 9, 10, 19, 20, 21, 22, 23, 24, 25] (by decide +kernel) (by decide +kernel)
set_option maxRecDepth 20000 in
theorem gX5_netOfYear_X2_gainOfYear : GoodIn wsX5_netOfYear (wsV RX5 179 RX2 yX2_gainOfYear wsX2_gainOfYear) := goodIn_app (goodIn_of _ (by decide +kernel)) ggX5_netOfYear_X2_gainOfYear
theorem dX5_netOfYear_0 : decode cX5_netOfYear 0 = .ok (.iconst 0, 1) := by decide +kernel
theorem dX5_netOfYear_1 : decode cX5_netOfYear 1 = .ok (.istore_n 2, 1) := by decide +kernel
theorem dX5_netOfYear_2 : decode cX5_netOfYear 2 = .ok (.iconst 0, 1) := by decide +kernel
theorem dX5_netOfYear_3 : decode cX5_netOfYear 3 = .ok (.istore_n 3, 1) := by decide +kernel
theorem dX5_netOfYear_4 : decode cX5_netOfYear 4 = .ok (.iload_n 3, 1) := by decide +kernel
theorem dX5_netOfYear_5 : decode cX5_netOfYear 5 = .ok (.iconst 3, 1) := by decide +kernel
theorem dX5_netOfYear_6 : decode cX5_netOfYear 6 = .ok (.if_icmp .ge 25, 3) := by decide +kernel
theorem dX5_netOfYear_9 : decode cX5_netOfYear 9 = .ok (.iload_n 2, 1) := by decide +kernel
theorem dX5_netOfYear_10 : decode cX5_netOfYear 10 = .ok (.aload_n 0, 1) := by decide +kernel
theorem dX5_netOfYear_11 : decode cX5_netOfYear 11 = .ok (.getfield 18, 3) := by decide +kernel
theorem dX5_netOfYear_14 : decode cX5_netOfYear 14 = .ok (.iload_n 3, 1) := by decide +kernel
theorem dX5_netOfYear_15 : decode cX5_netOfYear 15 = .ok (.aaload, 1) := by decide +kernel
theorem dX5_netOfYear_16 : decode cX5_netOfYear 16 = .ok (.getfield 147, 3) := by decide +kernel
theorem dX5_netOfYear_19 : decode cX5_netOfYear 19 = .ok (.iload_n 1, 1) := by decide +kernel
theorem dX5_netOfYear_20 : decode cX5_netOfYear 20 = .ok (.invokevirtual 179, 3) := by decide +kernel
theorem dX5_netOfYear_23 : decode cX5_netOfYear 23 = .ok (.iadd, 1) := by decide +kernel
theorem dX5_netOfYear_24 : decode cX5_netOfYear 24 = .ok (.istore_n 2, 1) := by decide +kernel
theorem dX5_netOfYear_25 : decode cX5_netOfYear 25 = .ok (.iinc 3 1, 3) := by decide +kernel
theorem dX5_netOfYear_28 : decode cX5_netOfYear 28 = .ok (.goto (-24), 3) := by decide +kernel
theorem dX5_netOfYear_31 : decode cX5_netOfYear 31 = .ok (.iload_n 2, 1) := by decide +kernel
theorem dX5_netOfYear_32 : decode cX5_netOfYear 32 = .ok (.ireturn, 1) := by decide +kernel
set_option maxRecDepth 20000 in
theorem ggX5_aboveAllowance_X5_netOfYear : GoodIn wsX5_aboveAllowance wsX5_netOfYear := goodIn_r _ [10, 11, 12, 13, 14, 15, 16, 17, 18, 19, 20, 21, 22, 23, 24, 25, 26, 27, 28, 29, 30, 31, 32, 33, 34, 35] (by decide +kernel) (by decide +kernel)
set_option maxRecDepth 20000 in
theorem gX5_aboveAllowance_X5_netOfYear : GoodIn wsX5_aboveAllowance (wsV RX5 182 RX5 yX5_netOfYear wsX5_netOfYear) := goodIn_app (goodIn_of _ (by decide +kernel)) ggX5_aboveAllowance_X5_netOfYear
theorem dX5_aboveAllowance_0 : decode cX5_aboveAllowance 0 = .ok (.iconst 0, 1) := by decide +kernel
theorem dX5_aboveAllowance_1 : decode cX5_aboveAllowance 1 = .ok (.aload_n 0, 1) := by decide +kernel
theorem dX5_aboveAllowance_2 : decode cX5_aboveAllowance 2 = .ok (.iload_n 1, 1) := by decide +kernel
theorem dX5_aboveAllowance_3 : decode cX5_aboveAllowance 3 = .ok (.invokevirtual 182, 3) := by decide +kernel
theorem dX5_aboveAllowance_6 : decode cX5_aboveAllowance 6 = .ok (.aload_n 0, 1) := by decide +kernel
theorem dX5_aboveAllowance_7 : decode cX5_aboveAllowance 7 = .ok (.getfield 25, 3) := by decide +kernel
theorem dX5_aboveAllowance_10 : decode cX5_aboveAllowance 10 = .ok (.iload_n 1, 1) := by decide +kernel
theorem dX5_aboveAllowance_11 : decode cX5_aboveAllowance 11 = .ok (.iaload, 1) := by decide +kernel
theorem dX5_aboveAllowance_12 : decode cX5_aboveAllowance 12 = .ok (.isub, 1) := by decide +kernel
theorem dX5_aboveAllowance_13 : decode cX5_aboveAllowance 13 = .ok (.invokestatic 197, 3) := by decide +kernel
theorem dX5_aboveAllowance_16 : decode cX5_aboveAllowance 16 = .ok (.ireturn, 1) := by decide +kernel
set_option maxRecDepth 20000 in
theorem ggX5_lossesOutOf_X5_netOfYear : GoodIn wsX5_lossesOutOf wsX5_netOfYear := goodIn_r _ [9, 10, 11, 12, 13, 14, 15, 16, 17, 18, 19, 28, 29, 30, 31, 32, 33, 34, 35, 36, 37, 38, 39, 40, 41, 42] (by decide +kernel) (by decide +kernel)
set_option maxRecDepth 20000 in
theorem gX5_lossesOutOf_X5_netOfYear : GoodIn wsX5_lossesOutOf (wsV RX5 182 RX5 yX5_netOfYear wsX5_netOfYear) := goodIn_app (goodIn_of _ (by decide +kernel)) ggX5_lossesOutOf_X5_netOfYear
set_option maxRecDepth 20000 in
theorem ggX5_lossesOutOf_X5_aboveAllowance : GoodIn wsX5_lossesOutOf wsX5_aboveAllowance := goodIn_r _ [23, 24, 25, 26, 3, 27, 5, 6, 7, 8, 9, 10, 11, 12, 13, 14, 15, 16, 17, 18, 19, 28, 29, 30, 31, 32, 33, 34, 35, 36, 37, 38, 39, 40, 41, 42] (by decide +kernel) (by decide +kernel)
set_option maxRecDepth 20000 in
theorem gX5_lossesOutOf_X5_aboveAllowance : GoodIn wsX5_lossesOutOf (wsV RX5 188 RX5 yX5_aboveAllowance wsX5_aboveAllowance) := goodIn_app (goodIn_of _ (by decide +kernel)) ggX5_lossesOutOf_X5_aboveAllowance
theorem dX5_lossesOutOf_0 : decode cX5_lossesOutOf 0 = .ok (.iconst 0, 1) := by decide +kernel
theorem dX5_lossesOutOf_1 : decode cX5_lossesOutOf 1 = .ok (.istore_n 2, 1) := by decide +kernel
theorem dX5_lossesOutOf_2 : decode cX5_lossesOutOf 2 = .ok (.iconst 0, 1) := by decide +kernel
theorem dX5_lossesOutOf_3 : decode cX5_lossesOutOf 3 = .ok (.istore_n 3, 1) := by decide +kernel
theorem dX5_lossesOutOf_4 : decode cX5_lossesOutOf 4 = .ok (.iload_n 3, 1) := by decide +kernel
theorem dX5_lossesOutOf_5 : decode cX5_lossesOutOf 5 = .ok (.iload_n 1, 1) := by decide +kernel
theorem dX5_lossesOutOf_6 : decode cX5_lossesOutOf 6 = .ok (.if_icmp .gt 46, 3) := by decide +kernel
theorem dX5_lossesOutOf_9 : decode cX5_lossesOutOf 9 = .ok (.iload_n 3, 1) := by decide +kernel
theorem dX5_lossesOutOf_10 : decode cX5_lossesOutOf 10 = .ok (.iconst 5, 1) := by decide +kernel
theorem dX5_lossesOutOf_11 : decode cX5_lossesOutOf 11 = .ok (.if_icmp .ge 41, 3) := by decide +kernel
theorem dX5_lossesOutOf_14 : decode cX5_lossesOutOf 14 = .ok (.aload_n 0, 1) := by decide +kernel
theorem dX5_lossesOutOf_15 : decode cX5_lossesOutOf 15 = .ok (.iload_n 3, 1) := by decide +kernel
theorem dX5_lossesOutOf_16 : decode cX5_lossesOutOf 16 = .ok (.invokevirtual 182, 3) := by decide +kernel
theorem dX5_lossesOutOf_19 : decode cX5_lossesOutOf 19 = .ok (.istore 4, 2) := by decide +kernel
theorem dX5_lossesOutOf_21 : decode cX5_lossesOutOf 21 = .ok (.iload 4, 2) := by decide +kernel
theorem dX5_lossesOutOf_23 : decode cX5_lossesOutOf 23 = .ok (.ifCond .ge 11, 3) := by decide +kernel
theorem dX5_lossesOutOf_26 : decode cX5_lossesOutOf 26 = .ok (.iload_n 2, 1) := by decide +kernel
theorem dX5_lossesOutOf_27 : decode cX5_lossesOutOf 27 = .ok (.iload 4, 2) := by decide +kernel
theorem dX5_lossesOutOf_29 : decode cX5_lossesOutOf 29 = .ok (.isub, 1) := by decide +kernel
theorem dX5_lossesOutOf_30 : decode cX5_lossesOutOf 30 = .ok (.istore_n 2, 1) := by decide +kernel
theorem dX5_lossesOutOf_31 : decode cX5_lossesOutOf 31 = .ok (.goto 15, 3) := by decide +kernel
theorem dX5_lossesOutOf_34 : decode cX5_lossesOutOf 34 = .ok (.iload_n 2, 1) := by decide +kernel
theorem dX5_lossesOutOf_35 : decode cX5_lossesOutOf 35 = .ok (.iload_n 2, 1) := by decide +kernel
theorem dX5_lossesOutOf_36 : decode cX5_lossesOutOf 36 = .ok (.aload_n 0, 1) := by decide +kernel
theorem dX5_lossesOutOf_37 : decode cX5_lossesOutOf 37 = .ok (.iload_n 3, 1) := by decide +kernel
theorem dX5_lossesOutOf_38 : decode cX5_lossesOutOf 38 = .ok (.invokevirtual 188, 3) := by decide +kernel
theorem dX5_lossesOutOf_41 : decode cX5_lossesOutOf 41 = .ok (.invokestatic 191, 3) := by decide +kernel
theorem dX5_lossesOutOf_44 : decode cX5_lossesOutOf 44 = .ok (.isub, 1) := by decide +kernel
theorem dX5_lossesOutOf_45 : decode cX5_lossesOutOf 45 = .ok (.istore_n 2, 1) := by decide +kernel
theorem dX5_lossesOutOf_46 : decode cX5_lossesOutOf 46 = .ok (.iinc 3 1, 3) := by decide +kernel
theorem dX5_lossesOutOf_49 : decode cX5_lossesOutOf 49 = .ok (.goto (-45), 3) := by decide +kernel
theorem dX5_lossesOutOf_52 : decode cX5_lossesOutOf 52 = .ok (.iload_n 2, 1) := by decide +kernel
theorem dX5_lossesOutOf_53 : decode cX5_lossesOutOf 53 = .ok (.ireturn, 1) := by decide +kernel
theorem dX5_ledgerOf_0 : decode cX5_ledgerOf 0 = .ok (.iload_n 1, 1) := by decide +kernel
theorem dX5_ledgerOf_1 : decode cX5_ledgerOf 1 = .ok (.ifCond .lt 8, 3) := by decide +kernel
theorem dX5_ledgerOf_4 : decode cX5_ledgerOf 4 = .ok (.iload_n 1, 1) := by decide +kernel
theorem dX5_ledgerOf_5 : decode cX5_ledgerOf 5 = .ok (.iconst 3, 1) := by decide +kernel
theorem dX5_ledgerOf_6 : decode cX5_ledgerOf 6 = .ok (.if_icmp .lt 13, 3) := by decide +kernel
theorem dX5_ledgerOf_9 : decode cX5_ledgerOf 9 = .ok (.new 88, 3) := by decide +kernel
theorem dX5_ledgerOf_12 : decode cX5_ledgerOf 12 = .ok (.dup, 1) := by decide +kernel
theorem dX5_ledgerOf_13 : decode cX5_ledgerOf 13 = .ok (.ldc 200, 2) := by decide +kernel
theorem dX5_ledgerOf_15 : decode cX5_ledgerOf 15 = .ok (.invokespecial 92, 3) := by decide +kernel
theorem dX5_ledgerOf_18 : decode cX5_ledgerOf 18 = .ok (.athrow, 1) := by decide +kernel
theorem dX5_ledgerOf_19 : decode cX5_ledgerOf 19 = .ok (.aload_n 0, 1) := by decide +kernel
theorem dX5_ledgerOf_20 : decode cX5_ledgerOf 20 = .ok (.getfield 18, 3) := by decide +kernel
theorem dX5_ledgerOf_23 : decode cX5_ledgerOf 23 = .ok (.iload_n 1, 1) := by decide +kernel
theorem dX5_ledgerOf_24 : decode cX5_ledgerOf 24 = .ok (.aaload, 1) := by decide +kernel
theorem dX5_ledgerOf_25 : decode cX5_ledgerOf 25 = .ok (.areturn, 1) := by decide +kernel
set_option maxRecDepth 20000 in
theorem ggX5_ledgerAt_X5_ledgerOf : GoodIn wsX5_ledgerAt wsX5_ledgerOf := goodIn_ca (goodIn_r _ [7, 1, 2, 8, 9, 10, 11, 12] (by decide +kernel) (by decide +kernel)) (goodIn_sub (fun _ h => List.mem_cons_of_mem _ (List.mem_append_right _ h)) (by decide +kernel))
set_option maxRecDepth 20000 in
theorem gX5_ledgerAt_X5_ledgerOf : GoodIn wsX5_ledgerAt (wsV RX5 139 RX5 yX5_ledgerOf wsX5_ledgerOf) := goodIn_app (goodIn_of _ (by decide +kernel)) ggX5_ledgerAt_X5_ledgerOf
theorem dX5_ledgerAt_0 : decode cX5_ledgerAt 0 = .ok (.aload_n 0, 1) := by decide +kernel
theorem dX5_ledgerAt_1 : decode cX5_ledgerAt 1 = .ok (.iload_n 1, 1) := by decide +kernel
theorem dX5_ledgerAt_2 : decode cX5_ledgerAt 2 = .ok (.invokevirtual 139, 3) := by decide +kernel
theorem dX5_ledgerAt_5 : decode cX5_ledgerAt 5 = .ok (.astore_n 3, 1) := by decide +kernel
theorem dX5_ledgerAt_6 : decode cX5_ledgerAt 6 = .ok (.iload_n 2, 1) := by decide +kernel
theorem dX5_ledgerAt_7 : decode cX5_ledgerAt 7 = .ok (.ifCond .lt 10, 3) := by decide +kernel
theorem dX5_ledgerAt_10 : decode cX5_ledgerAt 10 = .ok (.iload_n 2, 1) := by decide +kernel
theorem dX5_ledgerAt_11 : decode cX5_ledgerAt 11 = .ok (.sipush 1825, 3) := by decide +kernel
theorem dX5_ledgerAt_14 : decode cX5_ledgerAt 14 = .ok (.if_icmp .lt 13, 3) := by decide +kernel
theorem dX5_ledgerAt_17 : decode cX5_ledgerAt 17 = .ok (.new 88, 3) := by decide +kernel
theorem dX5_ledgerAt_20 : decode cX5_ledgerAt 20 = .ok (.dup, 1) := by decide +kernel
theorem dX5_ledgerAt_21 : decode cX5_ledgerAt 21 = .ok (.ldc 202, 2) := by decide +kernel
theorem dX5_ledgerAt_23 : decode cX5_ledgerAt 23 = .ok (.invokespecial 92, 3) := by decide +kernel
theorem dX5_ledgerAt_26 : decode cX5_ledgerAt 26 = .ok (.athrow, 1) := by decide +kernel
theorem dX5_ledgerAt_27 : decode cX5_ledgerAt 27 = .ok (.aload_n 3, 1) := by decide +kernel
theorem dX5_ledgerAt_28 : decode cX5_ledgerAt 28 = .ok (.areturn, 1) := by decide +kernel
set_option maxRecDepth 20000 in
theorem ggX5_matchesWith_X5_ledgerOf : GoodIn wsX5_matchesWith wsX5_ledgerOf := goodIn_ca (goodIn_r _ [7, 1, 2, 8, 20, 21, 22, 23] (by decide +kernel) (by decide +kernel)) (goodIn_sub (fun _ h => List.mem_cons_of_mem _ (List.mem_append_right _ h)) (by decide +kernel))
set_option maxRecDepth 20000 in
theorem gX5_matchesWith_X5_ledgerOf : GoodIn wsX5_matchesWith (wsV RX5 139 RX5 yX5_ledgerOf wsX5_ledgerOf) := goodIn_app (goodIn_of _ (by decide +kernel)) ggX5_matchesWith_X5_ledgerOf
theorem dX5_matchesWith_0 : decode cX5_matchesWith 0 = .ok (.aload_n 0, 1) := by decide +kernel
theorem dX5_matchesWith_1 : decode cX5_matchesWith 1 = .ok (.iload_n 1, 1) := by decide +kernel
theorem dX5_matchesWith_2 : decode cX5_matchesWith 2 = .ok (.invokevirtual 139, 3) := by decide +kernel
theorem dX5_matchesWith_5 : decode cX5_matchesWith 5 = .ok (.getfield 147, 3) := by decide +kernel
theorem dX5_matchesWith_8 : decode cX5_matchesWith 8 = .ok (.astore_n 3, 1) := by decide +kernel
theorem dX5_matchesWith_9 : decode cX5_matchesWith 9 = .ok (.iload_n 2, 1) := by decide +kernel
theorem dX5_matchesWith_10 : decode cX5_matchesWith 10 = .ok (.ifCond .lt 11, 3) := by decide +kernel
theorem dX5_matchesWith_13 : decode cX5_matchesWith 13 = .ok (.iload_n 2, 1) := by decide +kernel
theorem dX5_matchesWith_14 : decode cX5_matchesWith 14 = .ok (.aload_n 3, 1) := by decide +kernel
theorem dX5_matchesWith_15 : decode cX5_matchesWith 15 = .ok (.getfield 156, 3) := by decide +kernel
theorem dX5_matchesWith_18 : decode cX5_matchesWith 18 = .ok (.if_icmp .lt 13, 3) := by decide +kernel
theorem dX5_matchesWith_21 : decode cX5_matchesWith 21 = .ok (.new 88, 3) := by decide +kernel
theorem dX5_matchesWith_24 : decode cX5_matchesWith 24 = .ok (.dup, 1) := by decide +kernel
theorem dX5_matchesWith_25 : decode cX5_matchesWith 25 = .ok (.ldc 204, 2) := by decide +kernel
theorem dX5_matchesWith_27 : decode cX5_matchesWith 27 = .ok (.invokespecial 92, 3) := by decide +kernel
theorem dX5_matchesWith_30 : decode cX5_matchesWith 30 = .ok (.athrow, 1) := by decide +kernel
theorem dX5_matchesWith_31 : decode cX5_matchesWith 31 = .ok (.aload_n 3, 1) := by decide +kernel
theorem dX5_matchesWith_32 : decode cX5_matchesWith 32 = .ok (.areturn, 1) := by decide +kernel
set_option maxRecDepth 20000 in
theorem ggX5_checkRoomForTrade_X0_isFull : GoodIn wsX5_checkRoomForTrade wsX0_isFull := goodIn_r _ [8, 9, 14, 15, 16, 17, 18, 19, 20] (by decide +kernel) (by decide +kernel)
set_option maxRecDepth 20000 in
theorem gX5_checkRoomForTrade_X0_isFull : GoodIn wsX5_checkRoomForTrade (wsV RX5 206 RX0 yX0_isFull wsX0_isFull) := goodIn_app (goodIn_of _ (by decide +kernel)) ggX5_checkRoomForTrade_X0_isFull
theorem dX5_checkRoomForTrade_0 : decode cX5_checkRoomForTrade 0 = .ok (.aload_n 0, 1) := by decide +kernel
theorem dX5_checkRoomForTrade_1 : decode cX5_checkRoomForTrade 1 = .ok (.getfield 10, 3) := by decide +kernel
theorem dX5_checkRoomForTrade_4 : decode cX5_checkRoomForTrade 4 = .ok (.invokevirtual 206, 3) := by decide +kernel
theorem dX5_checkRoomForTrade_7 : decode cX5_checkRoomForTrade 7 = .ok (.ifCond .eq 13, 3) := by decide +kernel
theorem dX5_checkRoomForTrade_10 : decode cX5_checkRoomForTrade 10 = .ok (.new 77, 3) := by decide +kernel
theorem dX5_checkRoomForTrade_13 : decode cX5_checkRoomForTrade 13 = .ok (.dup, 1) := by decide +kernel
theorem dX5_checkRoomForTrade_14 : decode cX5_checkRoomForTrade 14 = .ok (.ldc 207, 2) := by decide +kernel
theorem dX5_checkRoomForTrade_16 : decode cX5_checkRoomForTrade 16 = .ok (.invokespecial 81, 3) := by decide +kernel
theorem dX5_checkRoomForTrade_19 : decode cX5_checkRoomForTrade 19 = .ok (.athrow, 1) := by decide +kernel
theorem dX5_checkRoomForTrade_20 : decode cX5_checkRoomForTrade 20 = .ok (.return_, 1) := by decide +kernel
theorem dX5_checkYear_0 : decode cX5_checkYear 0 = .ok (.iload_n 0, 1) := by decide +kernel
theorem dX5_checkYear_1 : decode cX5_checkYear 1 = .ok (.ifCond .lt 8, 3) := by decide +kernel
theorem dX5_checkYear_4 : decode cX5_checkYear 4 = .ok (.iload_n 0, 1) := by decide +kernel
theorem dX5_checkYear_5 : decode cX5_checkYear 5 = .ok (.iconst 5, 1) := by decide +kernel
theorem dX5_checkYear_6 : decode cX5_checkYear 6 = .ok (.if_icmp .lt 13, 3) := by decide +kernel
theorem dX5_checkYear_9 : decode cX5_checkYear 9 = .ok (.new 88, 3) := by decide +kernel
theorem dX5_checkYear_12 : decode cX5_checkYear 12 = .ok (.dup, 1) := by decide +kernel
theorem dX5_checkYear_13 : decode cX5_checkYear 13 = .ok (.ldc 209, 2) := by decide +kernel
theorem dX5_checkYear_15 : decode cX5_checkYear 15 = .ok (.invokespecial 92, 3) := by decide +kernel
theorem dX5_checkYear_18 : decode cX5_checkYear 18 = .ok (.athrow, 1) := by decide +kernel
theorem dX5_checkYear_19 : decode cX5_checkYear 19 = .ok (.return_, 1) := by decide +kernel
set_option maxRecDepth 20000 in
theorem ggX5_checkTrade_X5_checkMoney : GoodIn wsX5_checkTrade wsX5_checkMoney := goodIn_ca (goodIn_r _ [6, 1, 2, 7] (by decide +kernel) (by decide +kernel)) (goodIn_sub (fun _ h => List.mem_cons_of_mem _ (List.mem_append_right _ h)) (by decide +kernel))
set_option maxRecDepth 20000 in
theorem gX5_checkTrade_X5_checkMoney : GoodIn wsX5_checkTrade (va_wsS RX5 114 yX5_checkMoney wsX5_checkMoney) := goodIn_app (goodIn_of _ (by decide +kernel)) ggX5_checkTrade_X5_checkMoney
theorem dX5_checkTrade_0 : decode cX5_checkTrade 0 = .ok (.iload_n 0, 1) := by decide +kernel
theorem dX5_checkTrade_1 : decode cX5_checkTrade 1 = .ok (.iconst 1, 1) := by decide +kernel
theorem dX5_checkTrade_2 : decode cX5_checkTrade 2 = .ok (.if_icmp .lt 10, 3) := by decide +kernel
theorem dX5_checkTrade_5 : decode cX5_checkTrade 5 = .ok (.iload_n 0, 1) := by decide +kernel
theorem dX5_checkTrade_6 : decode cX5_checkTrade 6 = .ok (.sipush 1000, 3) := by decide +kernel
theorem dX5_checkTrade_9 : decode cX5_checkTrade 9 = .ok (.if_icmp .le 13, 3) := by decide +kernel
theorem dX5_checkTrade_12 : decode cX5_checkTrade 12 = .ok (.new 56, 3) := by decide +kernel
theorem dX5_checkTrade_15 : decode cX5_checkTrade 15 = .ok (.dup, 1) := by decide +kernel
theorem dX5_checkTrade_16 : decode cX5_checkTrade 16 = .ok (.ldc 211, 2) := by decide +kernel
theorem dX5_checkTrade_18 : decode cX5_checkTrade 18 = .ok (.invokespecial 60, 3) := by decide +kernel
theorem dX5_checkTrade_21 : decode cX5_checkTrade 21 = .ok (.athrow, 1) := by decide +kernel
theorem dX5_checkTrade_22 : decode cX5_checkTrade 22 = .ok (.iload_n 1, 1) := by decide +kernel
theorem dX5_checkTrade_23 : decode cX5_checkTrade 23 = .ok (.invokestatic 114, 3) := by decide +kernel
theorem dX5_checkTrade_26 : decode cX5_checkTrade 26 = .ok (.return_, 1) := by decide +kernel
theorem dX5_checkMoney_0 : decode cX5_checkMoney 0 = .ok (.iload_n 0, 1) := by decide +kernel
theorem dX5_checkMoney_1 : decode cX5_checkMoney 1 = .ok (.ifCond .lt 9, 3) := by decide +kernel
theorem dX5_checkMoney_4 : decode cX5_checkMoney 4 = .ok (.iload_n 0, 1) := by decide +kernel
theorem dX5_checkMoney_5 : decode cX5_checkMoney 5 = .ok (.ldc 213, 2) := by decide +kernel
theorem dX5_checkMoney_7 : decode cX5_checkMoney 7 = .ok (.if_icmp .le 13, 3) := by decide +kernel
theorem dX5_checkMoney_10 : decode cX5_checkMoney 10 = .ok (.new 56, 3) := by decide +kernel
theorem dX5_checkMoney_13 : decode cX5_checkMoney 13 = .ok (.dup, 1) := by decide +kernel
theorem dX5_checkMoney_14 : decode cX5_checkMoney 14 = .ok (.ldc 214, 2) := by decide +kernel
theorem dX5_checkMoney_16 : decode cX5_checkMoney 16 = .ok (.invokespecial 60, 3) := by decide +kernel
theorem dX5_checkMoney_19 : decode cX5_checkMoney 19 = .ok (.athrow, 1) := by decide +kernel
theorem dX5_checkMoney_20 : decode cX5_checkMoney 20 = .ok (.return_, 1) := by decide +kernel
set_option maxRecDepth 20000 in
theorem ggX5_checkCanSpare_X4_factorBetween : GoodIn wsX5_checkCanSpare wsX4_factorBetween := goodIn_r _ [7, 8, 9, 10, 28, 29, 30] (by decide +kernel) (by decide +kernel)
set_option maxRecDepth 20000 in
theorem gX5_checkCanSpare_X4_factorBetween : GoodIn wsX5_checkCanSpare (wsV RX5 216 RX4 yX4_factorBetween wsX4_factorBetween) := goodIn_app (goodIn_of _ (by decide +kernel)) ggX5_checkCanSpare_X4_factorBetween
set_option maxRecDepth 20000 in
theorem ggX5_checkCanSpare_X3_leastUnitsFrom : GoodIn wsX5_checkCanSpare wsX3_leastUnitsFrom := goodIn_r _ [15, 16, 17, 18, 19, 20, 21, 22, 23, 31, 32, 33, 34, 35, 36, 37, 38, 39, 40] (by decide +kernel) (by decide +kernel)
set_option maxRecDepth 20000 in
theorem gX5_checkCanSpare_X3_leastUnitsFrom : GoodIn wsX5_checkCanSpare (wsV RX5 219 RX3 yX3_leastUnitsFrom wsX3_leastUnitsFrom) := goodIn_app (goodIn_of _ (by decide +kernel)) ggX5_checkCanSpare_X3_leastUnitsFrom
theorem dX5_checkCanSpare_0 : decode cX5_checkCanSpare 0 = .ok (.iload_n 2, 1) := by decide +kernel
theorem dX5_checkCanSpare_1 : decode cX5_checkCanSpare 1 = .ok (.aload_n 0, 1) := by decide +kernel
theorem dX5_checkCanSpare_2 : decode cX5_checkCanSpare 2 = .ok (.getfield 63, 3) := by decide +kernel
theorem dX5_checkCanSpare_5 : decode cX5_checkCanSpare 5 = .ok (.iload_n 1, 1) := by decide +kernel
theorem dX5_checkCanSpare_6 : decode cX5_checkCanSpare 6 = .ok (.sipush 1825, 3) := by decide +kernel
theorem dX5_checkCanSpare_9 : decode cX5_checkCanSpare 9 = .ok (.invokevirtual 216, 3) := by decide +kernel
theorem dX5_checkCanSpare_12 : decode cX5_checkCanSpare 12 = .ok (.imul, 1) := by decide +kernel
theorem dX5_checkCanSpare_13 : decode cX5_checkCanSpare 13 = .ok (.istore_n 3, 1) := by decide +kernel
theorem dX5_checkCanSpare_14 : decode cX5_checkCanSpare 14 = .ok (.aload_n 0, 1) := by decide +kernel
theorem dX5_checkCanSpare_15 : decode cX5_checkCanSpare 15 = .ok (.getfield 123, 3) := by decide +kernel
theorem dX5_checkCanSpare_18 : decode cX5_checkCanSpare 18 = .ok (.iload_n 1, 1) := by decide +kernel
theorem dX5_checkCanSpare_19 : decode cX5_checkCanSpare 19 = .ok (.invokevirtual 219, 3) := by decide +kernel
theorem dX5_checkCanSpare_22 : decode cX5_checkCanSpare 22 = .ok (.iload_n 3, 1) := by decide +kernel
theorem dX5_checkCanSpare_23 : decode cX5_checkCanSpare 23 = .ok (.if_icmp .ge 13, 3) := by decide +kernel
theorem dX5_checkCanSpare_26 : decode cX5_checkCanSpare 26 = .ok (.new 77, 3) := by decide +kernel
theorem dX5_checkCanSpare_29 : decode cX5_checkCanSpare 29 = .ok (.dup, 1) := by decide +kernel
theorem dX5_checkCanSpare_30 : decode cX5_checkCanSpare 30 = .ok (.ldc 222, 2) := by decide +kernel
theorem dX5_checkCanSpare_32 : decode cX5_checkCanSpare 32 = .ok (.invokespecial 81, 3) := by decide +kernel
theorem dX5_checkCanSpare_35 : decode cX5_checkCanSpare 35 = .ok (.athrow, 1) := by decide +kernel
theorem dX5_checkCanSpare_36 : decode cX5_checkCanSpare 36 = .ok (.return_, 1) := by decide +kernel
theorem dX5_part_0 : decode cX5_part 0 = .ok (.iload_n 3, 1) := by decide +kernel
theorem dX5_part_1 : decode cX5_part 1 = .ok (.ifCond .gt 5, 3) := by decide +kernel
theorem dX5_part_4 : decode cX5_part 4 = .ok (.iconst 0, 1) := by decide +kernel
theorem dX5_part_5 : decode cX5_part 5 = .ok (.ireturn, 1) := by decide +kernel
theorem dX5_part_6 : decode cX5_part 6 = .ok (.iload_n 0, 1) := by decide +kernel
theorem dX5_part_7 : decode cX5_part 7 = .ok (.i2l, 1) := by decide +kernel
theorem dX5_part_8 : decode cX5_part 8 = .ok (.iload_n 2, 1) := by decide +kernel
theorem dX5_part_9 : decode cX5_part 9 = .ok (.i2l, 1) := by decide +kernel
theorem dX5_part_10 : decode cX5_part 10 = .ok (.lmul, 1) := by decide +kernel
theorem dX5_part_11 : decode cX5_part 11 = .ok (.iload_n 3, 1) := by decide +kernel
theorem dX5_part_12 : decode cX5_part 12 = .ok (.i2l, 1) := by decide +kernel
theorem dX5_part_13 : decode cX5_part 13 = .ok (.ldiv, 1) := by decide +kernel
theorem dX5_part_14 : decode cX5_part 14 = .ok (.iload_n 0, 1) := by decide +kernel
theorem dX5_part_15 : decode cX5_part 15 = .ok (.i2l, 1) := by decide +kernel
theorem dX5_part_16 : decode cX5_part 16 = .ok (.iload_n 1, 1) := by decide +kernel
theorem dX5_part_17 : decode cX5_part 17 = .ok (.i2l, 1) := by decide +kernel
theorem dX5_part_18 : decode cX5_part 18 = .ok (.lmul, 1) := by decide +kernel
theorem dX5_part_19 : decode cX5_part 19 = .ok (.iload_n 3, 1) := by decide +kernel
theorem dX5_part_20 : decode cX5_part 20 = .ok (.i2l, 1) := by decide +kernel
theorem dX5_part_21 : decode cX5_part 21 = .ok (.ldiv, 1) := by decide +kernel
theorem dX5_part_22 : decode cX5_part 22 = .ok (.lsub, 1) := by decide +kernel
theorem dX5_part_23 : decode cX5_part 23 = .ok (.l2i, 1) := by decide +kernel
theorem dX5_part_24 : decode cX5_part 24 = .ok (.ireturn, 1) := by decide +kernel
end
section
theorem dX6_init_0 : decode cX6_init 0 = .ok (.aload_n 0, 1) := by decide +kernel
theorem dX6_init_1 : decode cX6_init 1 = .ok (.invokespecial 1, 3) := by decide +kernel
theorem dX6_init_4 : decode cX6_init 4 = .ok (.aload_n 0, 1) := by decide +kernel
theorem dX6_init_5 : decode cX6_init 5 = .ok (.bipush 60, 2) := by decide +kernel
theorem dX6_init_7 : decode cX6_init 7 = .ok (.newarray .int, 2) := by decide +kernel
theorem dX6_init_9 : decode cX6_init 9 = .ok (.putfield 7, 3) := by decide +kernel
theorem dX6_init_12 : decode cX6_init 12 = .ok (.aload_n 0, 1) := by decide +kernel
theorem dX6_init_13 : decode cX6_init 13 = .ok (.bipush 60, 2) := by decide +kernel
theorem dX6_init_15 : decode cX6_init 15 = .ok (.newarray .int, 2) := by decide +kernel
theorem dX6_init_17 : decode cX6_init 17 = .ok (.putfield 13, 3) := by decide +kernel
theorem dX6_init_20 : decode cX6_init 20 = .ok (.aload_n 0, 1) := by decide +kernel
theorem dX6_init_21 : decode cX6_init 21 = .ok (.bipush 60, 2) := by decide +kernel
theorem dX6_init_23 : decode cX6_init 23 = .ok (.newarray .int, 2) := by decide +kernel
theorem dX6_init_25 : decode cX6_init 25 = .ok (.putfield 16, 3) := by decide +kernel
theorem dX6_init_28 : decode cX6_init 28 = .ok (.aload_n 0, 1) := by decide +kernel
theorem dX6_init_29 : decode cX6_init 29 = .ok (.bipush 60, 2) := by decide +kernel
theorem dX6_init_31 : decode cX6_init 31 = .ok (.newarray .int, 2) := by decide +kernel
theorem dX6_init_33 : decode cX6_init 33 = .ok (.putfield 19, 3) := by decide +kernel
theorem dX6_init_36 : decode cX6_init 36 = .ok (.aload_n 0, 1) := by decide +kernel
theorem dX6_init_37 : decode cX6_init 37 = .ok (.bipush 60, 2) := by decide +kernel
theorem dX6_init_39 : decode cX6_init 39 = .ok (.newarray .boolean, 2) := by decide +kernel
theorem dX6_init_41 : decode cX6_init 41 = .ok (.putfield 22, 3) := by decide +kernel
theorem dX6_init_44 : decode cX6_init 44 = .ok (.aload_n 0, 1) := by decide +kernel
theorem dX6_init_45 : decode cX6_init 45 = .ok (.bipush 60, 2) := by decide +kernel
theorem dX6_init_47 : decode cX6_init 47 = .ok (.newarray .boolean, 2) := by decide +kernel
theorem dX6_init_49 : decode cX6_init 49 = .ok (.putfield 26, 3) := by decide +kernel
theorem dX6_init_52 : decode cX6_init 52 = .ok (.aload_n 0, 1) := by decide +kernel
theorem dX6_init_53 : decode cX6_init 53 = .ok (.iconst 3, 1) := by decide +kernel
theorem dX6_init_54 : decode cX6_init 54 = .ok (.newarray .int, 2) := by decide +kernel
theorem dX6_init_56 : decode cX6_init 56 = .ok (.putfield 29, 3) := by decide +kernel
theorem dX6_init_59 : decode cX6_init 59 = .ok (.aload_n 0, 1) := by decide +kernel
theorem dX6_init_60 : decode cX6_init 60 = .ok (.bipush 12, 2) := by decide +kernel
theorem dX6_init_62 : decode cX6_init 62 = .ok (.newarray .int, 2) := by decide +kernel
theorem dX6_init_64 : decode cX6_init 64 = .ok (.putfield 32, 3) := by decide +kernel
theorem dX6_init_67 : decode cX6_init 67 = .ok (.aload_n 0, 1) := by decide +kernel
theorem dX6_init_68 : decode cX6_init 68 = .ok (.bipush 12, 2) := by decide +kernel
theorem dX6_init_70 : decode cX6_init 70 = .ok (.newarray .int, 2) := by decide +kernel
theorem dX6_init_72 : decode cX6_init 72 = .ok (.putfield 35, 3) := by decide +kernel
theorem dX6_init_75 : decode cX6_init 75 = .ok (.aload_n 0, 1) := by decide +kernel
theorem dX6_init_76 : decode cX6_init 76 = .ok (.iconst 5, 1) := by decide +kernel
theorem dX6_init_77 : decode cX6_init 77 = .ok (.newarray .int, 2) := by decide +kernel
theorem dX6_init_79 : decode cX6_init 79 = .ok (.putfield 38, 3) := by decide +kernel
theorem dX6_init_82 : decode cX6_init 82 = .ok (.aload_n 0, 1) := by decide +kernel
theorem dX6_init_83 : decode cX6_init 83 = .ok (.bipush 30, 2) := by decide +kernel
theorem dX6_init_85 : decode cX6_init 85 = .ok (.putfield 41, 3) := by decide +kernel
theorem dX6_init_88 : decode cX6_init 88 = .ok (.aload_n 0, 1) := by decide +kernel
theorem dX6_init_89 : decode cX6_init 89 = .ok (.bipush 60, 2) := by decide +kernel
theorem dX6_init_91 : decode cX6_init 91 = .ok (.newarray .int, 2) := by decide +kernel
theorem dX6_init_93 : decode cX6_init 93 = .ok (.putfield 45, 3) := by decide +kernel
theorem dX6_init_96 : decode cX6_init 96 = .ok (.aload_n 0, 1) := by decide +kernel
theorem dX6_init_97 : decode cX6_init 97 = .ok (.bipush 60, 2) := by decide +kernel
theorem dX6_init_99 : decode cX6_init 99 = .ok (.newarray .long, 2) := by decide +kernel
theorem dX6_init_101 : decode cX6_init 101 = .ok (.putfield 48, 3) := by decide +kernel
theorem dX6_init_104 : decode cX6_init 104 = .ok (.aload_n 0, 1) := by decide +kernel
theorem dX6_init_105 : decode cX6_init 105 = .ok (.bipush 60, 2) := by decide +kernel
theorem dX6_init_107 : decode cX6_init 107 = .ok (.newarray .long, 2) := by decide +kernel
theorem dX6_init_109 : decode cX6_init 109 = .ok (.putfield 52, 3) := by decide +kernel
theorem dX6_init_112 : decode cX6_init 112 = .ok (.aload_n 0, 1) := by decide +kernel
theorem dX6_init_113 : decode cX6_init 113 = .ok (.bipush 60, 2) := by decide +kernel
theorem dX6_init_115 : decode cX6_init 115 = .ok (.newarray .long, 2) := by decide +kernel
theorem dX6_init_117 : decode cX6_init 117 = .ok (.putfield 55, 3) := by decide +kernel
theorem dX6_init_120 : decode cX6_init 120 = .ok (.aload_n 0, 1) := by decide +kernel
theorem dX6_init_121 : decode cX6_init 121 = .ok (.bipush 60, 2) := by decide +kernel
theorem dX6_init_123 : decode cX6_init 123 = .ok (.newarray .long, 2) := by decide +kernel
theorem dX6_init_125 : decode cX6_init 125 = .ok (.putfield 58, 3) := by decide +kernel
theorem dX6_init_128 : decode cX6_init 128 = .ok (.aload_n 0, 1) := by decide +kernel
theorem dX6_init_129 : decode cX6_init 129 = .ok (.bipush 60, 2) := by decide +kernel
theorem dX6_init_131 : decode cX6_init 131 = .ok (.newarray .long, 2) := by decide +kernel
theorem dX6_init_133 : decode cX6_init 133 = .ok (.putfield 61, 3) := by decide +kernel
theorem dX6_init_136 : decode cX6_init 136 = .ok (.aload_n 0, 1) := by decide +kernel
theorem dX6_init_137 : decode cX6_init 137 = .ok (.bipush 60, 2) := by decide +kernel
theorem dX6_init_139 : decode cX6_init 139 = .ok (.newarray .long, 2) := by decide +kernel
theorem dX6_init_141 : decode cX6_init 141 = .ok (.putfield 64, 3) := by decide +kernel
theorem dX6_init_144 : decode cX6_init 144 = .ok (.aload_n 0, 1) := by decide +kernel
theorem dX6_init_145 : decode cX6_init 145 = .ok (.bipush 60, 2) := by decide +kernel
theorem dX6_init_147 : decode cX6_init 147 = .ok (.newarray .long, 2) := by decide +kernel
theorem dX6_init_149 : decode cX6_init 149 = .ok (.putfield 67, 3) := by decide +kernel
theorem dX6_init_152 : decode cX6_init 152 = .ok (.aload_n 0, 1) := by decide +kernel
theorem dX6_init_153 : decode cX6_init 153 = .ok (.bipush 60, 2) := by decide +kernel
theorem dX6_init_155 : decode cX6_init 155 = .ok (.newarray .long, 2) := by decide +kernel
theorem dX6_init_157 : decode cX6_init 157 = .ok (.putfield 70, 3) := by decide +kernel
theorem dX6_init_160 : decode cX6_init 160 = .ok (.aload_n 0, 1) := by decide +kernel
theorem dX6_init_161 : decode cX6_init 161 = .ok (.sipush 256, 3) := by decide +kernel
theorem dX6_init_164 : decode cX6_init 164 = .ok (.newarray .int, 2) := by decide +kernel
theorem dX6_init_166 : decode cX6_init 166 = .ok (.putfield 73, 3) := by decide +kernel
theorem dX6_init_169 : decode cX6_init 169 = .ok (.aload_n 0, 1) := by decide +kernel
theorem dX6_init_170 : decode cX6_init 170 = .ok (.sipush 256, 3) := by decide +kernel
theorem dX6_init_173 : decode cX6_init 173 = .ok (.newarray .int, 2) := by decide +kernel
theorem dX6_init_175 : decode cX6_init 175 = .ok (.putfield 76, 3) := by decide +kernel
theorem dX6_init_178 : decode cX6_init 178 = .ok (.aload_n 0, 1) := by decide +kernel
theorem dX6_init_179 : decode cX6_init 179 = .ok (.sipush 256, 3) := by decide +kernel
theorem dX6_init_182 : decode cX6_init 182 = .ok (.newarray .int, 2) := by decide +kernel
theorem dX6_init_184 : decode cX6_init 184 = .ok (.putfield 79, 3) := by decide +kernel
theorem dX6_init_187 : decode cX6_init 187 = .ok (.aload_n 0, 1) := by decide +kernel
theorem dX6_init_188 : decode cX6_init 188 = .ok (.sipush 256, 3) := by decide +kernel
theorem dX6_init_191 : decode cX6_init 191 = .ok (.newarray .long, 2) := by decide +kernel
theorem dX6_init_193 : decode cX6_init 193 = .ok (.putfield 82, 3) := by decide +kernel
theorem dX6_init_196 : decode cX6_init 196 = .ok (.aload_n 0, 1) := by decide +kernel
theorem dX6_init_197 : decode cX6_init 197 = .ok (.sipush 256, 3) := by decide +kernel
theorem dX6_init_200 : decode cX6_init 200 = .ok (.newarray .long, 2) := by decide +kernel
theorem dX6_init_202 : decode cX6_init 202 = .ok (.putfield 85, 3) := by decide +kernel
theorem dX6_init_205 : decode cX6_init 205 = .ok (.aload_n 0, 1) := by decide +kernel
theorem dX6_init_206 : decode cX6_init 206 = .ok (.sipush 256, 3) := by decide +kernel
theorem dX6_init_209 : decode cX6_init 209 = .ok (.newarray .long, 2) := by decide +kernel
theorem dX6_init_211 : decode cX6_init 211 = .ok (.putfield 88, 3) := by decide +kernel
theorem dX6_init_214 : decode cX6_init 214 = .ok (.return_, 1) := by decide +kernel
theorem dX6_thrown_0 : decode cX6_thrown 0 = .ok (.aload_n 0, 1) := by decide +kernel
theorem dX6_thrown_1 : decode cX6_thrown 1 = .ok (.getfield 91, 3) := by decide +kernel
theorem dX6_thrown_4 : decode cX6_thrown 4 = .ok (.ireturn, 1) := by decide +kernel
theorem dX6_isIn_0 : decode cX6_isIn 0 = .ok (.iload_n 0, 1) := by decide +kernel
theorem dX6_isIn_1 : decode cX6_isIn 1 = .ok (.iload_n 1, 1) := by decide +kernel
theorem dX6_isIn_2 : decode cX6_isIn 2 = .ok (.if_icmp .lt 12, 3) := by decide +kernel
theorem dX6_isIn_5 : decode cX6_isIn 5 = .ok (.iload_n 0, 1) := by decide +kernel
theorem dX6_isIn_6 : decode cX6_isIn 6 = .ok (.iload_n 2, 1) := by decide +kernel
theorem dX6_isIn_7 : decode cX6_isIn 7 = .ok (.if_icmp .gt 7, 3) := by decide +kernel
theorem dX6_isIn_10 : decode cX6_isIn 10 = .ok (.iconst 1, 1) := by decide +kernel
theorem dX6_isIn_11 : decode cX6_isIn 11 = .ok (.goto 4, 3) := by decide +kernel
theorem dX6_isIn_14 : decode cX6_isIn 14 = .ok (.iconst 0, 1) := by decide +kernel
theorem dX6_isIn_15 : decode cX6_isIn 15 = .ok (.ireturn, 1) := by decide +kernel
set_option maxRecDepth 20000 in
theorem ggX6_isShare_X6_isIn : GoodIn wsX6_isShare wsX6_isIn := goodIn_r _ [4] (by decide +kernel) (by decide +kernel)
set_option maxRecDepth 20000 in
theorem gX6_isShare_X6_isIn : GoodIn wsX6_isShare (va_wsS RX6 94 yX6_isIn wsX6_isIn) := goodIn_app (goodIn_of _ (by decide +kernel)) ggX6_isShare_X6_isIn
theorem dX6_isShare_0 : decode cX6_isShare 0 = .ok (.iload_n 0, 1) := by decide +kernel
theorem dX6_isShare_1 : decode cX6_isShare 1 = .ok (.iconst 0, 1) := by decide +kernel
theorem dX6_isShare_2 : decode cX6_isShare 2 = .ok (.iconst 2, 1) := by decide +kernel
theorem dX6_isShare_3 : decode cX6_isShare 3 = .ok (.invokestatic 94, 3) := by decide +kernel
theorem dX6_isShare_6 : decode cX6_isShare 6 = .ok (.ireturn, 1) := by decide +kernel
set_option maxRecDepth 20000 in
theorem ggX6_isDay_X6_isIn : GoodIn wsX6_isDay wsX6_isIn := goodIn_r _ [4] (by decide +kernel) (by decide +kernel)
set_option maxRecDepth 20000 in
theorem gX6_isDay_X6_isIn : GoodIn wsX6_isDay (va_wsS RX6 94 yX6_isIn wsX6_isIn) := goodIn_app (goodIn_of _ (by decide +kernel)) ggX6_isDay_X6_isIn
theorem dX6_isDay_0 : decode cX6_isDay 0 = .ok (.iload_n 0, 1) := by decide +kernel
theorem dX6_isDay_1 : decode cX6_isDay 1 = .ok (.iconst 0, 1) := by decide +kernel
theorem dX6_isDay_2 : decode cX6_isDay 2 = .ok (.sipush 1824, 3) := by decide +kernel
theorem dX6_isDay_5 : decode cX6_isDay 5 = .ok (.invokestatic 94, 3) := by decide +kernel
theorem dX6_isDay_8 : decode cX6_isDay 8 = .ok (.ireturn, 1) := by decide +kernel
theorem dX6_later_0 : decode cX6_later 0 = .ok (.iconst 1, 1) := by decide +kernel
theorem dX6_later_1 : decode cX6_later 1 = .ok (.istore_n 3, 1) := by decide +kernel
theorem dX6_later_2 : decode cX6_later 2 = .ok (.iconst 4, 1) := by decide +kernel
theorem dX6_later_3 : decode cX6_later 3 = .ok (.iload_n 1, 1) := by decide +kernel
theorem dX6_later_4 : decode cX6_later 4 = .ok (.imul, 1) := by decide +kernel
theorem dX6_later_5 : decode cX6_later 5 = .ok (.istore 4, 2) := by decide +kernel
theorem dX6_later_7 : decode cX6_later 7 = .ok (.iload 4, 2) := by decide +kernel
theorem dX6_later_9 : decode cX6_later 9 = .ok (.iconst 4, 1) := by decide +kernel
theorem dX6_later_10 : decode cX6_later 10 = .ok (.iload_n 1, 1) := by decide +kernel
theorem dX6_later_11 : decode cX6_later 11 = .ok (.imul, 1) := by decide +kernel
theorem dX6_later_12 : decode cX6_later 12 = .ok (.aload_n 0, 1) := by decide +kernel
theorem dX6_later_13 : decode cX6_later 13 = .ok (.getfield 29, 3) := by decide +kernel
theorem dX6_later_16 : decode cX6_later 16 = .ok (.iload_n 1, 1) := by decide +kernel
theorem dX6_later_17 : decode cX6_later 17 = .ok (.iaload, 1) := by decide +kernel
theorem dX6_later_18 : decode cX6_later 18 = .ok (.iadd, 1) := by decide +kernel
theorem dX6_later_19 : decode cX6_later 19 = .ok (.if_icmp .ge 34, 3) := by decide +kernel
theorem dX6_later_22 : decode cX6_later 22 = .ok (.iload_n 3, 1) := by decide +kernel
theorem dX6_later_23 : decode cX6_later 23 = .ok (.aload_n 0, 1) := by decide +kernel
theorem dX6_later_24 : decode cX6_later 24 = .ok (.getfield 32, 3) := by decide +kernel
theorem dX6_later_27 : decode cX6_later 27 = .ok (.iload 4, 2) := by decide +kernel
theorem dX6_later_29 : decode cX6_later 29 = .ok (.iaload, 1) := by decide +kernel
theorem dX6_later_30 : decode cX6_later 30 = .ok (.iload_n 2, 1) := by decide +kernel
theorem dX6_later_31 : decode cX6_later 31 = .ok (.if_icmp .le 13, 3) := by decide +kernel
theorem dX6_later_34 : decode cX6_later 34 = .ok (.aload_n 0, 1) := by decide +kernel
theorem dX6_later_35 : decode cX6_later 35 = .ok (.getfield 35, 3) := by decide +kernel
theorem dX6_later_38 : decode cX6_later 38 = .ok (.iload 4, 2) := by decide +kernel
theorem dX6_later_40 : decode cX6_later 40 = .ok (.iaload, 1) := by decide +kernel
theorem dX6_later_41 : decode cX6_later 41 = .ok (.goto 4, 3) := by decide +kernel
theorem dX6_later_44 : decode cX6_later 44 = .ok (.iconst 1, 1) := by decide +kernel
theorem dX6_later_45 : decode cX6_later 45 = .ok (.imul, 1) := by decide +kernel
theorem dX6_later_46 : decode cX6_later 46 = .ok (.istore_n 3, 1) := by decide +kernel
theorem dX6_later_47 : decode cX6_later 47 = .ok (.iinc 4 1, 3) := by decide +kernel
theorem dX6_later_50 : decode cX6_later 50 = .ok (.goto (-43), 3) := by decide +kernel
theorem dX6_later_53 : decode cX6_later 53 = .ok (.iload_n 3, 1) := by decide +kernel
theorem dX6_later_54 : decode cX6_later 54 = .ok (.ireturn, 1) := by decide +kernel
set_option maxRecDepth 20000 in
theorem ggX6_held_X6_later : GoodIn wsX6_held wsX6_later := goodIn_r _ [11, 12, 13, 14, 15, 16, 17, 18, 19, 20, 21, 22, 23, 24, 25, 26, 27, 28, 29, 30, 31, 32, 33, 34, 35, 36, 37, 38, 39, 40, 41, 42, 43, 44] (by decide +kernel) (by decide +kernel)
set_option maxRecDepth 20000 in
theorem gX6_held_X6_later : GoodIn wsX6_held (wsV RX6 101 RX6 yX6_later wsX6_later) := goodIn_app (goodIn_of _ (by decide +kernel)) ggX6_held_X6_later
theorem dX6_held_0 : decode cX6_held 0 = .ok (.lconst 0, 1) := by decide +kernel
theorem dX6_held_1 : decode cX6_held 1 = .ok (.lstore_n 3, 1) := by decide +kernel
theorem dX6_held_2 : decode cX6_held 2 = .ok (.iconst 0, 1) := by decide +kernel
theorem dX6_held_3 : decode cX6_held 3 = .ok (.istore 5, 2) := by decide +kernel
theorem dX6_held_5 : decode cX6_held 5 = .ok (.iload 5, 2) := by decide +kernel
theorem dX6_held_7 : decode cX6_held 7 = .ok (.aload_n 0, 1) := by decide +kernel
theorem dX6_held_8 : decode cX6_held 8 = .ok (.getfield 98, 3) := by decide +kernel
theorem dX6_held_11 : decode cX6_held 11 = .ok (.if_icmp .ge 86, 3) := by decide +kernel
theorem dX6_held_14 : decode cX6_held 14 = .ok (.aload_n 0, 1) := by decide +kernel
theorem dX6_held_15 : decode cX6_held 15 = .ok (.getfield 26, 3) := by decide +kernel
theorem dX6_held_18 : decode cX6_held 18 = .ok (.iload 5, 2) := by decide +kernel
theorem dX6_held_20 : decode cX6_held 20 = .ok (.baload, 1) := by decide +kernel
theorem dX6_held_21 : decode cX6_held 21 = .ok (.ifCond .ne 70, 3) := by decide +kernel
theorem dX6_held_24 : decode cX6_held 24 = .ok (.aload_n 0, 1) := by decide +kernel
theorem dX6_held_25 : decode cX6_held 25 = .ok (.getfield 7, 3) := by decide +kernel
theorem dX6_held_28 : decode cX6_held 28 = .ok (.iload 5, 2) := by decide +kernel
theorem dX6_held_30 : decode cX6_held 30 = .ok (.iaload, 1) := by decide +kernel
theorem dX6_held_31 : decode cX6_held 31 = .ok (.iload_n 1, 1) := by decide +kernel
theorem dX6_held_32 : decode cX6_held 32 = .ok (.if_icmp .ne 59, 3) := by decide +kernel
theorem dX6_held_35 : decode cX6_held 35 = .ok (.aload_n 0, 1) := by decide +kernel
theorem dX6_held_36 : decode cX6_held 36 = .ok (.getfield 13, 3) := by decide +kernel
theorem dX6_held_39 : decode cX6_held 39 = .ok (.iload 5, 2) := by decide +kernel
theorem dX6_held_41 : decode cX6_held 41 = .ok (.iaload, 1) := by decide +kernel
theorem dX6_held_42 : decode cX6_held 42 = .ok (.iload_n 2, 1) := by decide +kernel
theorem dX6_held_43 : decode cX6_held 43 = .ok (.if_icmp .gt 48, 3) := by decide +kernel
theorem dX6_held_46 : decode cX6_held 46 = .ok (.aload_n 0, 1) := by decide +kernel
theorem dX6_held_47 : decode cX6_held 47 = .ok (.getfield 16, 3) := by decide +kernel
theorem dX6_held_50 : decode cX6_held 50 = .ok (.iload 5, 2) := by decide +kernel
theorem dX6_held_52 : decode cX6_held 52 = .ok (.iaload, 1) := by decide +kernel
theorem dX6_held_53 : decode cX6_held 53 = .ok (.i2l, 1) := by decide +kernel
theorem dX6_held_54 : decode cX6_held 54 = .ok (.aload_n 0, 1) := by decide +kernel
theorem dX6_held_55 : decode cX6_held 55 = .ok (.iload_n 1, 1) := by decide +kernel
theorem dX6_held_56 : decode cX6_held 56 = .ok (.aload_n 0, 1) := by decide +kernel
theorem dX6_held_57 : decode cX6_held 57 = .ok (.getfield 13, 3) := by decide +kernel
theorem dX6_held_60 : decode cX6_held 60 = .ok (.iload 5, 2) := by decide +kernel
theorem dX6_held_62 : decode cX6_held 62 = .ok (.iaload, 1) := by decide +kernel
theorem dX6_held_63 : decode cX6_held 63 = .ok (.invokevirtual 101, 3) := by decide +kernel
theorem dX6_held_66 : decode cX6_held 66 = .ok (.i2l, 1) := by decide +kernel
theorem dX6_held_67 : decode cX6_held 67 = .ok (.lmul, 1) := by decide +kernel
theorem dX6_held_68 : decode cX6_held 68 = .ok (.lstore 6, 2) := by decide +kernel
theorem dX6_held_70 : decode cX6_held 70 = .ok (.lload_n 3, 1) := by decide +kernel
theorem dX6_held_71 : decode cX6_held 71 = .ok (.aload_n 0, 1) := by decide +kernel
theorem dX6_held_72 : decode cX6_held 72 = .ok (.getfield 22, 3) := by decide +kernel
theorem dX6_held_75 : decode cX6_held 75 = .ok (.iload 5, 2) := by decide +kernel
theorem dX6_held_77 : decode cX6_held 77 = .ok (.baload, 1) := by decide +kernel
theorem dX6_held_78 : decode cX6_held 78 = .ok (.ifCond .eq 9, 3) := by decide +kernel
theorem dX6_held_81 : decode cX6_held 81 = .ok (.lload 6, 2) := by decide +kernel
theorem dX6_held_83 : decode cX6_held 83 = .ok (.lneg, 1) := by decide +kernel
theorem dX6_held_84 : decode cX6_held 84 = .ok (.goto 5, 3) := by decide +kernel
theorem dX6_held_87 : decode cX6_held 87 = .ok (.lload 6, 2) := by decide +kernel
theorem dX6_held_89 : decode cX6_held 89 = .ok (.ladd, 1) := by decide +kernel
theorem dX6_held_90 : decode cX6_held 90 = .ok (.lstore_n 3, 1) := by decide +kernel
theorem dX6_held_91 : decode cX6_held 91 = .ok (.iinc 5 1, 3) := by decide +kernel
theorem dX6_held_94 : decode cX6_held 94 = .ok (.goto (-89), 3) := by decide +kernel
theorem dX6_held_97 : decode cX6_held 97 = .ok (.lload_n 3, 1) := by decide +kernel
theorem dX6_held_98 : decode cX6_held 98 = .ok (.lreturn, 1) := by decide +kernel
set_option maxRecDepth 20000 in
theorem ggX6_isBelow_X6_held : GoodIn wsX6_isBelow wsX6_held := goodIn_r _ [8, 1, 9, 2, 3, 10, 11, 12, 13, 14, 7, 15, 16, 17, 18, 19, 20, 21, 22, 23, 24, 25, 26, 27, 28, 29, 30, 31, 32, 33, 34, 35, 36, 37, 38, 39, 40, 41, 42, 43, 44, 45, 46, 47, 48] (by decide +kernel) (by decide +kernel)
set_option maxRecDepth 20000 in
theorem gX6_isBelow_X6_held : GoodIn wsX6_isBelow (wsV RX6 105 RX6 yX6_held wsX6_held) := goodIn_app (goodIn_of _ (by decide +kernel)) ggX6_isBelow_X6_held
theorem dX6_isBelow_0 : decode cX6_isBelow 0 = .ok (.iconst 0, 1) := by decide +kernel
theorem dX6_isBelow_1 : decode cX6_isBelow 1 = .ok (.istore_n 2, 1) := by decide +kernel
theorem dX6_isBelow_2 : decode cX6_isBelow 2 = .ok (.iconst 0, 1) := by decide +kernel
theorem dX6_isBelow_3 : decode cX6_isBelow 3 = .ok (.istore_n 3, 1) := by decide +kernel
theorem dX6_isBelow_4 : decode cX6_isBelow 4 = .ok (.iload_n 3, 1) := by decide +kernel
theorem dX6_isBelow_5 : decode cX6_isBelow 5 = .ok (.aload_n 0, 1) := by decide +kernel
theorem dX6_isBelow_6 : decode cX6_isBelow 6 = .ok (.getfield 98, 3) := by decide +kernel
theorem dX6_isBelow_9 : decode cX6_isBelow 9 = .ok (.if_icmp .ge 43, 3) := by decide +kernel
theorem dX6_isBelow_12 : decode cX6_isBelow 12 = .ok (.iload_n 2, 1) := by decide +kernel
theorem dX6_isBelow_13 : decode cX6_isBelow 13 = .ok (.aload_n 0, 1) := by decide +kernel
theorem dX6_isBelow_14 : decode cX6_isBelow 14 = .ok (.getfield 7, 3) := by decide +kernel
theorem dX6_isBelow_17 : decode cX6_isBelow 17 = .ok (.iload_n 3, 1) := by decide +kernel
theorem dX6_isBelow_18 : decode cX6_isBelow 18 = .ok (.iaload, 1) := by decide +kernel
theorem dX6_isBelow_19 : decode cX6_isBelow 19 = .ok (.iload_n 1, 1) := by decide +kernel
theorem dX6_isBelow_20 : decode cX6_isBelow 20 = .ok (.if_icmp .ne 23, 3) := by decide +kernel
theorem dX6_isBelow_23 : decode cX6_isBelow 23 = .ok (.aload_n 0, 1) := by decide +kernel
theorem dX6_isBelow_24 : decode cX6_isBelow 24 = .ok (.iload_n 1, 1) := by decide +kernel
theorem dX6_isBelow_25 : decode cX6_isBelow 25 = .ok (.aload_n 0, 1) := by decide +kernel
theorem dX6_isBelow_26 : decode cX6_isBelow 26 = .ok (.getfield 13, 3) := by decide +kernel
theorem dX6_isBelow_29 : decode cX6_isBelow 29 = .ok (.iload_n 3, 1) := by decide +kernel
theorem dX6_isBelow_30 : decode cX6_isBelow 30 = .ok (.iaload, 1) := by decide +kernel
theorem dX6_isBelow_31 : decode cX6_isBelow 31 = .ok (.invokevirtual 105, 3) := by decide +kernel
theorem dX6_isBelow_34 : decode cX6_isBelow 34 = .ok (.lconst 0, 1) := by decide +kernel
theorem dX6_isBelow_35 : decode cX6_isBelow 35 = .ok (.lcmp, 1) := by decide +kernel
theorem dX6_isBelow_36 : decode cX6_isBelow 36 = .ok (.ifCond .ge 7, 3) := by decide +kernel
theorem dX6_isBelow_39 : decode cX6_isBelow 39 = .ok (.iconst 1, 1) := by decide +kernel
theorem dX6_isBelow_40 : decode cX6_isBelow 40 = .ok (.goto 4, 3) := by decide +kernel
theorem dX6_isBelow_43 : decode cX6_isBelow 43 = .ok (.iconst 0, 1) := by decide +kernel
theorem dX6_isBelow_44 : decode cX6_isBelow 44 = .ok (.ior, 1) := by decide +kernel
theorem dX6_isBelow_45 : decode cX6_isBelow 45 = .ok (.istore_n 2, 1) := by decide +kernel
theorem dX6_isBelow_46 : decode cX6_isBelow 46 = .ok (.iinc 3 1, 3) := by decide +kernel
theorem dX6_isBelow_49 : decode cX6_isBelow 49 = .ok (.goto (-45), 3) := by decide +kernel
theorem dX6_isBelow_52 : decode cX6_isBelow 52 = .ok (.iload_n 2, 1) := by decide +kernel
theorem dX6_isBelow_53 : decode cX6_isBelow 53 = .ok (.ireturn, 1) := by decide +kernel
set_option maxRecDepth 20000 in
theorem ggX6_enters_X6_isShare : GoodIn wsX6_enters wsX6_isShare := goodIn_r _ [13, 14, 15, 12, 16] (by decide +kernel) (by decide +kernel)
set_option maxRecDepth 20000 in
theorem gX6_enters_X6_isShare : GoodIn wsX6_enters (va_wsS RX6 109 yX6_isShare wsX6_isShare) := goodIn_app (goodIn_of _ (by decide +kernel)) ggX6_enters_X6_isShare
set_option maxRecDepth 20000 in
theorem ggX6_enters_X6_isDay : GoodIn wsX6_enters wsX6_isDay := goodIn_r _ [19, 14, 15, 12, 16] (by decide +kernel) (by decide +kernel)
set_option maxRecDepth 20000 in
theorem gX6_enters_X6_isDay : GoodIn wsX6_enters (va_wsS RX6 113 yX6_isDay wsX6_isDay) := goodIn_app (goodIn_of _ (by decide +kernel)) ggX6_enters_X6_isDay
set_option maxRecDepth 20000 in
theorem ggX6_enters_X6_isIn : GoodIn wsX6_enters wsX6_isIn := goodIn_r _ [16] (by decide +kernel) (by decide +kernel)
set_option maxRecDepth 20000 in
theorem gX6_enters_X6_isIn : GoodIn wsX6_enters (va_wsS RX6 94 yX6_isIn wsX6_isIn) := goodIn_app (goodIn_of _ (by decide +kernel)) ggX6_enters_X6_isIn
set_option maxRecDepth 20000 in
theorem ggX6_enters_X6_isBelow : GoodIn wsX6_enters wsX6_isBelow := goodIn_r _ [23, 3, 4, 5, 24, 25, 26, 12, 27, 9, 6, 8, 28, 29, 30, 31, 32, 33, 34, 35, 36, 37, 38, 39, 40, 41, 42, 43, 44, 45, 46, 47, 48, 49, 50, 51, 52, 53, 54, 55, 56, 57, 58, 59, 60, 61, 62, 63, 64] (by decide +kernel) (by decide +kernel)
set_option maxRecDepth 20000 in
theorem gX6_enters_X6_isBelow : GoodIn wsX6_enters (wsV RX6 117 RX6 yX6_isBelow wsX6_isBelow) := goodIn_app (goodIn_of _ (by decide +kernel)) ggX6_enters_X6_isBelow
theorem dX6_enters_0 : decode cX6_enters 0 = .ok (.aload_n 0, 1) := by decide +kernel
theorem dX6_enters_1 : decode cX6_enters 1 = .ok (.iload_n 1, 1) := by decide +kernel
theorem dX6_enters_2 : decode cX6_enters 2 = .ok (.invokestatic 109, 3) := by decide +kernel
theorem dX6_enters_5 : decode cX6_enters 5 = .ok (.ifCond .eq 10, 3) := by decide +kernel
theorem dX6_enters_8 : decode cX6_enters 8 = .ok (.iload_n 2, 1) := by decide +kernel
theorem dX6_enters_9 : decode cX6_enters 9 = .ok (.invokestatic 113, 3) := by decide +kernel
theorem dX6_enters_12 : decode cX6_enters 12 = .ok (.ifCond .ne 7, 3) := by decide +kernel
theorem dX6_enters_15 : decode cX6_enters 15 = .ok (.iconst 1, 1) := by decide +kernel
theorem dX6_enters_16 : decode cX6_enters 16 = .ok (.goto 30, 3) := by decide +kernel
theorem dX6_enters_19 : decode cX6_enters 19 = .ok (.iload_n 3, 1) := by decide +kernel
theorem dX6_enters_20 : decode cX6_enters 20 = .ok (.iconst 1, 1) := by decide +kernel
theorem dX6_enters_21 : decode cX6_enters 21 = .ok (.sipush 1000, 3) := by decide +kernel
theorem dX6_enters_24 : decode cX6_enters 24 = .ok (.invokestatic 94, 3) := by decide +kernel
theorem dX6_enters_27 : decode cX6_enters 27 = .ok (.ifCond .eq 14, 3) := by decide +kernel
theorem dX6_enters_30 : decode cX6_enters 30 = .ok (.iload 4, 2) := by decide +kernel
theorem dX6_enters_32 : decode cX6_enters 32 = .ok (.iconst 0, 1) := by decide +kernel
theorem dX6_enters_33 : decode cX6_enters 33 = .ok (.ldc 116, 2) := by decide +kernel
theorem dX6_enters_35 : decode cX6_enters 35 = .ok (.invokestatic 94, 3) := by decide +kernel
theorem dX6_enters_38 : decode cX6_enters 38 = .ok (.ifCond .ne 7, 3) := by decide +kernel
theorem dX6_enters_41 : decode cX6_enters 41 = .ok (.iconst 2, 1) := by decide +kernel
theorem dX6_enters_42 : decode cX6_enters 42 = .ok (.goto 4, 3) := by decide +kernel
theorem dX6_enters_45 : decode cX6_enters 45 = .ok (.iconst 0, 1) := by decide +kernel
theorem dX6_enters_46 : decode cX6_enters 46 = .ok (.putfield 91, 3) := by decide +kernel
theorem dX6_enters_49 : decode cX6_enters 49 = .ok (.aload_n 0, 1) := by decide +kernel
theorem dX6_enters_50 : decode cX6_enters 50 = .ok (.getfield 91, 3) := by decide +kernel
theorem dX6_enters_53 : decode cX6_enters 53 = .ok (.ifCond .le 5, 3) := by decide +kernel
theorem dX6_enters_56 : decode cX6_enters 56 = .ok (.iconst 0, 1) := by decide +kernel
theorem dX6_enters_57 : decode cX6_enters 57 = .ok (.ireturn, 1) := by decide +kernel
theorem dX6_enters_58 : decode cX6_enters 58 = .ok (.aload_n 0, 1) := by decide +kernel
theorem dX6_enters_59 : decode cX6_enters 59 = .ok (.aload_n 0, 1) := by decide +kernel
theorem dX6_enters_60 : decode cX6_enters 60 = .ok (.getfield 98, 3) := by decide +kernel
theorem dX6_enters_63 : decode cX6_enters 63 = .ok (.bipush 60, 2) := by decide +kernel
theorem dX6_enters_65 : decode cX6_enters 65 = .ok (.if_icmp .ne 7, 3) := by decide +kernel
theorem dX6_enters_68 : decode cX6_enters 68 = .ok (.iconst 3, 1) := by decide +kernel
theorem dX6_enters_69 : decode cX6_enters 69 = .ok (.goto 4, 3) := by decide +kernel
theorem dX6_enters_72 : decode cX6_enters 72 = .ok (.iconst 0, 1) := by decide +kernel
theorem dX6_enters_73 : decode cX6_enters 73 = .ok (.putfield 91, 3) := by decide +kernel
theorem dX6_enters_76 : decode cX6_enters 76 = .ok (.aload_n 0, 1) := by decide +kernel
theorem dX6_enters_77 : decode cX6_enters 77 = .ok (.getfield 91, 3) := by decide +kernel
theorem dX6_enters_80 : decode cX6_enters 80 = .ok (.ifCond .le 5, 3) := by decide +kernel
theorem dX6_enters_83 : decode cX6_enters 83 = .ok (.iconst 0, 1) := by decide +kernel
theorem dX6_enters_84 : decode cX6_enters 84 = .ok (.ireturn, 1) := by decide +kernel
theorem dX6_enters_85 : decode cX6_enters 85 = .ok (.aload_n 0, 1) := by decide +kernel
theorem dX6_enters_86 : decode cX6_enters 86 = .ok (.getfield 7, 3) := by decide +kernel
theorem dX6_enters_89 : decode cX6_enters 89 = .ok (.aload_n 0, 1) := by decide +kernel
theorem dX6_enters_90 : decode cX6_enters 90 = .ok (.getfield 98, 3) := by decide +kernel
theorem dX6_enters_93 : decode cX6_enters 93 = .ok (.iload_n 1, 1) := by decide +kernel
theorem dX6_enters_94 : decode cX6_enters 94 = .ok (.iastore, 1) := by decide +kernel
theorem dX6_enters_95 : decode cX6_enters 95 = .ok (.aload_n 0, 1) := by decide +kernel
theorem dX6_enters_96 : decode cX6_enters 96 = .ok (.getfield 13, 3) := by decide +kernel
theorem dX6_enters_99 : decode cX6_enters 99 = .ok (.aload_n 0, 1) := by decide +kernel
theorem dX6_enters_100 : decode cX6_enters 100 = .ok (.getfield 98, 3) := by decide +kernel
theorem dX6_enters_103 : decode cX6_enters 103 = .ok (.iload_n 2, 1) := by decide +kernel
theorem dX6_enters_104 : decode cX6_enters 104 = .ok (.iastore, 1) := by decide +kernel
theorem dX6_enters_105 : decode cX6_enters 105 = .ok (.aload_n 0, 1) := by decide +kernel
theorem dX6_enters_106 : decode cX6_enters 106 = .ok (.getfield 16, 3) := by decide +kernel
theorem dX6_enters_109 : decode cX6_enters 109 = .ok (.aload_n 0, 1) := by decide +kernel
theorem dX6_enters_110 : decode cX6_enters 110 = .ok (.getfield 98, 3) := by decide +kernel
theorem dX6_enters_113 : decode cX6_enters 113 = .ok (.iload_n 3, 1) := by decide +kernel
theorem dX6_enters_114 : decode cX6_enters 114 = .ok (.iastore, 1) := by decide +kernel
theorem dX6_enters_115 : decode cX6_enters 115 = .ok (.aload_n 0, 1) := by decide +kernel
theorem dX6_enters_116 : decode cX6_enters 116 = .ok (.getfield 19, 3) := by decide +kernel
theorem dX6_enters_119 : decode cX6_enters 119 = .ok (.aload_n 0, 1) := by decide +kernel
theorem dX6_enters_120 : decode cX6_enters 120 = .ok (.getfield 98, 3) := by decide +kernel
theorem dX6_enters_123 : decode cX6_enters 123 = .ok (.iload 4, 2) := by decide +kernel
theorem dX6_enters_125 : decode cX6_enters 125 = .ok (.iastore, 1) := by decide +kernel
theorem dX6_enters_126 : decode cX6_enters 126 = .ok (.aload_n 0, 1) := by decide +kernel
theorem dX6_enters_127 : decode cX6_enters 127 = .ok (.getfield 22, 3) := by decide +kernel
theorem dX6_enters_130 : decode cX6_enters 130 = .ok (.aload_n 0, 1) := by decide +kernel
theorem dX6_enters_131 : decode cX6_enters 131 = .ok (.getfield 98, 3) := by decide +kernel
theorem dX6_enters_134 : decode cX6_enters 134 = .ok (.iload 5, 2) := by decide +kernel
theorem dX6_enters_136 : decode cX6_enters 136 = .ok (.bastore, 1) := by decide +kernel
theorem dX6_enters_137 : decode cX6_enters 137 = .ok (.aload_n 0, 1) := by decide +kernel
theorem dX6_enters_138 : decode cX6_enters 138 = .ok (.getfield 26, 3) := by decide +kernel
theorem dX6_enters_141 : decode cX6_enters 141 = .ok (.aload_n 0, 1) := by decide +kernel
theorem dX6_enters_142 : decode cX6_enters 142 = .ok (.getfield 98, 3) := by decide +kernel
theorem dX6_enters_145 : decode cX6_enters 145 = .ok (.iconst 0, 1) := by decide +kernel
theorem dX6_enters_146 : decode cX6_enters 146 = .ok (.bastore, 1) := by decide +kernel
theorem dX6_enters_147 : decode cX6_enters 147 = .ok (.aload_n 0, 1) := by decide +kernel
theorem dX6_enters_148 : decode cX6_enters 148 = .ok (.dup, 1) := by decide +kernel
theorem dX6_enters_149 : decode cX6_enters 149 = .ok (.getfield 98, 3) := by decide +kernel
theorem dX6_enters_152 : decode cX6_enters 152 = .ok (.iconst 1, 1) := by decide +kernel
theorem dX6_enters_153 : decode cX6_enters 153 = .ok (.iadd, 1) := by decide +kernel
theorem dX6_enters_154 : decode cX6_enters 154 = .ok (.putfield 98, 3) := by decide +kernel
theorem dX6_enters_157 : decode cX6_enters 157 = .ok (.aload_n 0, 1) := by decide +kernel
theorem dX6_enters_158 : decode cX6_enters 158 = .ok (.iload_n 1, 1) := by decide +kernel
theorem dX6_enters_159 : decode cX6_enters 159 = .ok (.invokevirtual 117, 3) := by decide +kernel
theorem dX6_enters_162 : decode cX6_enters 162 = .ok (.ifCond .eq 20, 3) := by decide +kernel
theorem dX6_enters_165 : decode cX6_enters 165 = .ok (.aload_n 0, 1) := by decide +kernel
theorem dX6_enters_166 : decode cX6_enters 166 = .ok (.dup, 1) := by decide +kernel
theorem dX6_enters_167 : decode cX6_enters 167 = .ok (.getfield 98, 3) := by decide +kernel
theorem dX6_enters_170 : decode cX6_enters 170 = .ok (.iconst 1, 1) := by decide +kernel
theorem dX6_enters_171 : decode cX6_enters 171 = .ok (.isub, 1) := by decide +kernel
theorem dX6_enters_172 : decode cX6_enters 172 = .ok (.putfield 98, 3) := by decide +kernel
theorem dX6_enters_175 : decode cX6_enters 175 = .ok (.aload_n 0, 1) := by decide +kernel
theorem dX6_enters_176 : decode cX6_enters 176 = .ok (.iconst 3, 1) := by decide +kernel
theorem dX6_enters_177 : decode cX6_enters 177 = .ok (.putfield 91, 3) := by decide +kernel
theorem dX6_enters_180 : decode cX6_enters 180 = .ok (.iconst 0, 1) := by decide +kernel
theorem dX6_enters_181 : decode cX6_enters 181 = .ok (.ireturn, 1) := by decide +kernel
theorem dX6_enters_182 : decode cX6_enters 182 = .ok (.aload_n 0, 1) := by decide +kernel
theorem dX6_enters_183 : decode cX6_enters 183 = .ok (.getfield 98, 3) := by decide +kernel
theorem dX6_enters_186 : decode cX6_enters 186 = .ok (.iconst 1, 1) := by decide +kernel
theorem dX6_enters_187 : decode cX6_enters 187 = .ok (.isub, 1) := by decide +kernel
theorem dX6_enters_188 : decode cX6_enters 188 = .ok (.ireturn, 1) := by decide +kernel
set_option maxRecDepth 20000 in
theorem ggX6_buy_X6_enters : GoodIn wsX6_buy wsX6_enters := goodIn_r _ [5, 6, 7, 8, 9, 10, 11, 12, 13, 14, 15, 16, 4, 17, 18, 19, 20, 21, 22, 23, 24, 25, 26, 27, 28, 29, 30, 31, 32, 33, 34, 35, 36, 37, 38, 39, 40, 41, 42, 43, 44, 45, 46, 47, 48, 49, 50, 51, 52, 53, 54, 55, 56, 57, 58, 59, 60, 61, 62, 63, 64, 65, 66, 67, 68] (by decide +kernel) (by decide +kernel)
set_option maxRecDepth 20000 in
theorem gX6_buy_X6_enters : GoodIn wsX6_buy (wsV RX6 120 RX6 yX6_enters wsX6_enters) := goodIn_app (goodIn_of _ (by decide +kernel)) ggX6_buy_X6_enters
theorem dX6_buy_0 : decode cX6_buy 0 = .ok (.aload_n 0, 1) := by decide +kernel
theorem dX6_buy_1 : decode cX6_buy 1 = .ok (.iload_n 1, 1) := by decide +kernel
theorem dX6_buy_2 : decode cX6_buy 2 = .ok (.iload_n 2, 1) := by decide +kernel
theorem dX6_buy_3 : decode cX6_buy 3 = .ok (.iload_n 3, 1) := by decide +kernel
theorem dX6_buy_4 : decode cX6_buy 4 = .ok (.iload 4, 2) := by decide +kernel
theorem dX6_buy_6 : decode cX6_buy 6 = .ok (.iconst 0, 1) := by decide +kernel
theorem dX6_buy_7 : decode cX6_buy 7 = .ok (.invokevirtual 120, 3) := by decide +kernel
theorem dX6_buy_10 : decode cX6_buy 10 = .ok (.ireturn, 1) := by decide +kernel
set_option maxRecDepth 20000 in
theorem ggX6_sell_X6_enters : GoodIn wsX6_sell wsX6_enters := goodIn_r _ [5, 6, 7, 8, 9, 10, 11, 12, 13, 14, 15, 16, 4, 17, 18, 19, 20, 21, 22, 23, 24, 25, 26, 27, 28, 29, 30, 31, 32, 33, 34, 35, 36, 37, 38, 39, 40, 41, 42, 43, 44, 45, 46, 47, 48, 49, 50, 51, 52, 53, 54, 55, 56, 57, 58, 59, 60, 61, 62, 63, 64, 65, 66, 67, 68] (by decide +kernel) (by decide +kernel)
set_option maxRecDepth 20000 in
theorem gX6_sell_X6_enters : GoodIn wsX6_sell (wsV RX6 120 RX6 yX6_enters wsX6_enters) := goodIn_app (goodIn_of _ (by decide +kernel)) ggX6_sell_X6_enters
theorem dX6_sell_0 : decode cX6_sell 0 = .ok (.aload_n 0, 1) := by decide +kernel
theorem dX6_sell_1 : decode cX6_sell 1 = .ok (.iload_n 1, 1) := by decide +kernel
theorem dX6_sell_2 : decode cX6_sell 2 = .ok (.iload_n 2, 1) := by decide +kernel
theorem dX6_sell_3 : decode cX6_sell 3 = .ok (.iload_n 3, 1) := by decide +kernel
theorem dX6_sell_4 : decode cX6_sell 4 = .ok (.iload 4, 2) := by decide +kernel
theorem dX6_sell_6 : decode cX6_sell 6 = .ok (.iconst 1, 1) := by decide +kernel
theorem dX6_sell_7 : decode cX6_sell 7 = .ok (.invokevirtual 120, 3) := by decide +kernel
theorem dX6_sell_10 : decode cX6_sell 10 = .ok (.ireturn, 1) := by decide +kernel
set_option maxRecDepth 20000 in
theorem ggX6_split_X6_isShare : GoodIn wsX6_split wsX6_isShare := goodIn_r _ [8, 9, 10, 7, 11] (by decide +kernel) (by decide +kernel)
set_option maxRecDepth 20000 in
theorem gX6_split_X6_isShare : GoodIn wsX6_split (va_wsS RX6 109 yX6_isShare wsX6_isShare) := goodIn_app (goodIn_of _ (by decide +kernel)) ggX6_split_X6_isShare
set_option maxRecDepth 20000 in
theorem ggX6_split_X6_isDay : GoodIn wsX6_split wsX6_isDay := goodIn_r _ [14, 9, 10, 7, 11] (by decide +kernel) (by decide +kernel)
set_option maxRecDepth 20000 in
theorem gX6_split_X6_isDay : GoodIn wsX6_split (va_wsS RX6 113 yX6_isDay wsX6_isDay) := goodIn_app (goodIn_of _ (by decide +kernel)) ggX6_split_X6_isDay
set_option maxRecDepth 20000 in
theorem ggX6_split_X6_isIn : GoodIn wsX6_split wsX6_isIn := goodIn_r _ [11] (by decide +kernel) (by decide +kernel)
set_option maxRecDepth 20000 in
theorem gX6_split_X6_isIn : GoodIn wsX6_split (va_wsS RX6 94 yX6_isIn wsX6_isIn) := goodIn_app (goodIn_of _ (by decide +kernel)) ggX6_split_X6_isIn
theorem dX6_split_0 : decode cX6_split 0 = .ok (.aload_n 0, 1) := by decide +kernel
theorem dX6_split_1 : decode cX6_split 1 = .ok (.iload_n 1, 1) := by decide +kernel
theorem dX6_split_2 : decode cX6_split 2 = .ok (.invokestatic 109, 3) := by decide +kernel
theorem dX6_split_5 : decode cX6_split 5 = .ok (.ifCond .eq 10, 3) := by decide +kernel
theorem dX6_split_8 : decode cX6_split 8 = .ok (.iload_n 2, 1) := by decide +kernel
theorem dX6_split_9 : decode cX6_split 9 = .ok (.invokestatic 113, 3) := by decide +kernel
theorem dX6_split_12 : decode cX6_split 12 = .ok (.ifCond .ne 7, 3) := by decide +kernel
theorem dX6_split_15 : decode cX6_split 15 = .ok (.iconst 1, 1) := by decide +kernel
theorem dX6_split_16 : decode cX6_split 16 = .ok (.goto 17, 3) := by decide +kernel
theorem dX6_split_19 : decode cX6_split 19 = .ok (.iload_n 3, 1) := by decide +kernel
theorem dX6_split_20 : decode cX6_split 20 = .ok (.iconst 2, 1) := by decide +kernel
theorem dX6_split_21 : decode cX6_split 21 = .ok (.iconst 5, 1) := by decide +kernel
theorem dX6_split_22 : decode cX6_split 22 = .ok (.invokestatic 94, 3) := by decide +kernel
theorem dX6_split_25 : decode cX6_split 25 = .ok (.ifCond .eq 7, 3) := by decide +kernel
theorem dX6_split_28 : decode cX6_split 28 = .ok (.iconst 0, 1) := by decide +kernel
theorem dX6_split_29 : decode cX6_split 29 = .ok (.goto 4, 3) := by decide +kernel
theorem dX6_split_32 : decode cX6_split 32 = .ok (.iconst 2, 1) := by decide +kernel
theorem dX6_split_33 : decode cX6_split 33 = .ok (.putfield 91, 3) := by decide +kernel
theorem dX6_split_36 : decode cX6_split 36 = .ok (.aload_n 0, 1) := by decide +kernel
theorem dX6_split_37 : decode cX6_split 37 = .ok (.getfield 91, 3) := by decide +kernel
theorem dX6_split_40 : decode cX6_split 40 = .ok (.ifCond .le 5, 3) := by decide +kernel
theorem dX6_split_43 : decode cX6_split 43 = .ok (.iconst 0, 1) := by decide +kernel
theorem dX6_split_44 : decode cX6_split 44 = .ok (.ireturn, 1) := by decide +kernel
theorem dX6_split_45 : decode cX6_split 45 = .ok (.iconst 4, 1) := by decide +kernel
theorem dX6_split_46 : decode cX6_split 46 = .ok (.iload_n 1, 1) := by decide +kernel
theorem dX6_split_47 : decode cX6_split 47 = .ok (.imul, 1) := by decide +kernel
theorem dX6_split_48 : decode cX6_split 48 = .ok (.aload_n 0, 1) := by decide +kernel
theorem dX6_split_49 : decode cX6_split 49 = .ok (.getfield 29, 3) := by decide +kernel
theorem dX6_split_52 : decode cX6_split 52 = .ok (.iload_n 1, 1) := by decide +kernel
theorem dX6_split_53 : decode cX6_split 53 = .ok (.iaload, 1) := by decide +kernel
theorem dX6_split_54 : decode cX6_split 54 = .ok (.iadd, 1) := by decide +kernel
theorem dX6_split_55 : decode cX6_split 55 = .ok (.istore 4, 2) := by decide +kernel
theorem dX6_split_57 : decode cX6_split 57 = .ok (.aload_n 0, 1) := by decide +kernel
theorem dX6_split_58 : decode cX6_split 58 = .ok (.aload_n 0, 1) := by decide +kernel
theorem dX6_split_59 : decode cX6_split 59 = .ok (.getfield 29, 3) := by decide +kernel
theorem dX6_split_62 : decode cX6_split 62 = .ok (.iload_n 1, 1) := by decide +kernel
theorem dX6_split_63 : decode cX6_split 63 = .ok (.iaload, 1) := by decide +kernel
theorem dX6_split_64 : decode cX6_split 64 = .ok (.iconst 4, 1) := by decide +kernel
theorem dX6_split_65 : decode cX6_split 65 = .ok (.if_icmp .ne 7, 3) := by decide +kernel
theorem dX6_split_68 : decode cX6_split 68 = .ok (.iconst 3, 1) := by decide +kernel
theorem dX6_split_69 : decode cX6_split 69 = .ok (.goto 4, 3) := by decide +kernel
theorem dX6_split_72 : decode cX6_split 72 = .ok (.iconst 0, 1) := by decide +kernel
theorem dX6_split_73 : decode cX6_split 73 = .ok (.putfield 91, 3) := by decide +kernel
theorem dX6_split_76 : decode cX6_split 76 = .ok (.iconst 4, 1) := by decide +kernel
theorem dX6_split_77 : decode cX6_split 77 = .ok (.iload_n 1, 1) := by decide +kernel
theorem dX6_split_78 : decode cX6_split 78 = .ok (.imul, 1) := by decide +kernel
theorem dX6_split_79 : decode cX6_split 79 = .ok (.istore 5, 2) := by decide +kernel
theorem dX6_split_81 : decode cX6_split 81 = .ok (.iload 5, 2) := by decide +kernel
theorem dX6_split_83 : decode cX6_split 83 = .ok (.iload 4, 2) := by decide +kernel
theorem dX6_split_85 : decode cX6_split 85 = .ok (.if_icmp .ge 32, 3) := by decide +kernel
theorem dX6_split_88 : decode cX6_split 88 = .ok (.aload_n 0, 1) := by decide +kernel
theorem dX6_split_89 : decode cX6_split 89 = .ok (.aload_n 0, 1) := by decide +kernel
theorem dX6_split_90 : decode cX6_split 90 = .ok (.getfield 32, 3) := by decide +kernel
theorem dX6_split_93 : decode cX6_split 93 = .ok (.iload 5, 2) := by decide +kernel
theorem dX6_split_95 : decode cX6_split 95 = .ok (.iaload, 1) := by decide +kernel
theorem dX6_split_96 : decode cX6_split 96 = .ok (.iload_n 2, 1) := by decide +kernel
theorem dX6_split_97 : decode cX6_split 97 = .ok (.if_icmp .ne 7, 3) := by decide +kernel
theorem dX6_split_100 : decode cX6_split 100 = .ok (.iconst 3, 1) := by decide +kernel
theorem dX6_split_101 : decode cX6_split 101 = .ok (.goto 7, 3) := by decide +kernel
theorem dX6_split_104 : decode cX6_split 104 = .ok (.aload_n 0, 1) := by decide +kernel
theorem dX6_split_105 : decode cX6_split 105 = .ok (.getfield 91, 3) := by decide +kernel
theorem dX6_split_108 : decode cX6_split 108 = .ok (.putfield 91, 3) := by decide +kernel
theorem dX6_split_111 : decode cX6_split 111 = .ok (.iinc 5 1, 3) := by decide +kernel
theorem dX6_split_114 : decode cX6_split 114 = .ok (.goto (-33), 3) := by decide +kernel
theorem dX6_split_117 : decode cX6_split 117 = .ok (.aload_n 0, 1) := by decide +kernel
theorem dX6_split_118 : decode cX6_split 118 = .ok (.getfield 91, 3) := by decide +kernel
theorem dX6_split_121 : decode cX6_split 121 = .ok (.ifCond .le 5, 3) := by decide +kernel
theorem dX6_split_124 : decode cX6_split 124 = .ok (.iconst 0, 1) := by decide +kernel
theorem dX6_split_125 : decode cX6_split 125 = .ok (.ireturn, 1) := by decide +kernel
theorem dX6_split_126 : decode cX6_split 126 = .ok (.aload_n 0, 1) := by decide +kernel
theorem dX6_split_127 : decode cX6_split 127 = .ok (.getfield 32, 3) := by decide +kernel
theorem dX6_split_130 : decode cX6_split 130 = .ok (.iload 4, 2) := by decide +kernel
theorem dX6_split_132 : decode cX6_split 132 = .ok (.iload_n 2, 1) := by decide +kernel
theorem dX6_split_133 : decode cX6_split 133 = .ok (.iastore, 1) := by decide +kernel
theorem dX6_split_134 : decode cX6_split 134 = .ok (.aload_n 0, 1) := by decide +kernel
theorem dX6_split_135 : decode cX6_split 135 = .ok (.getfield 35, 3) := by decide +kernel
theorem dX6_split_138 : decode cX6_split 138 = .ok (.iload 4, 2) := by decide +kernel
theorem dX6_split_140 : decode cX6_split 140 = .ok (.iload_n 3, 1) := by decide +kernel
theorem dX6_split_141 : decode cX6_split 141 = .ok (.iastore, 1) := by decide +kernel
theorem dX6_split_142 : decode cX6_split 142 = .ok (.aload_n 0, 1) := by decide +kernel
theorem dX6_split_143 : decode cX6_split 143 = .ok (.getfield 29, 3) := by decide +kernel
theorem dX6_split_146 : decode cX6_split 146 = .ok (.iload_n 1, 1) := by decide +kernel
theorem dX6_split_147 : decode cX6_split 147 = .ok (.dup2, 1) := by decide +kernel
theorem dX6_split_148 : decode cX6_split 148 = .ok (.iaload, 1) := by decide +kernel
theorem dX6_split_149 : decode cX6_split 149 = .ok (.iconst 1, 1) := by decide +kernel
theorem dX6_split_150 : decode cX6_split 150 = .ok (.iadd, 1) := by decide +kernel
theorem dX6_split_151 : decode cX6_split 151 = .ok (.iastore, 1) := by decide +kernel
theorem dX6_split_152 : decode cX6_split 152 = .ok (.aload_n 0, 1) := by decide +kernel
theorem dX6_split_153 : decode cX6_split 153 = .ok (.getfield 29, 3) := by decide +kernel
theorem dX6_split_156 : decode cX6_split 156 = .ok (.iload_n 1, 1) := by decide +kernel
theorem dX6_split_157 : decode cX6_split 157 = .ok (.iaload, 1) := by decide +kernel
theorem dX6_split_158 : decode cX6_split 158 = .ok (.ireturn, 1) := by decide +kernel
set_option maxRecDepth 20000 in
theorem ggX6_cancel_X6_isIn : GoodIn wsX6_cancel wsX6_isIn := goodIn_r _ [8] (by decide +kernel) (by decide +kernel)
set_option maxRecDepth 20000 in
theorem gX6_cancel_X6_isIn : GoodIn wsX6_cancel (va_wsS RX6 94 yX6_isIn wsX6_isIn) := goodIn_app (goodIn_of _ (by decide +kernel)) ggX6_cancel_X6_isIn
set_option maxRecDepth 20000 in
theorem ggX6_cancel_X6_isBelow : GoodIn wsX6_cancel wsX6_isBelow := goodIn_r _ [12, 1, 4, 13, 14, 15, 16, 7, 17, 2, 18, 19, 20, 21, 22, 23, 24, 25, 26, 27, 28, 29, 30, 31, 32, 33, 34, 35, 36, 37, 38, 39, 40, 41, 42, 43, 44, 45, 46, 47, 48, 49, 50, 51, 52, 53, 54, 55, 56] (by decide +kernel) (by decide +kernel)
set_option maxRecDepth 20000 in
theorem gX6_cancel_X6_isBelow : GoodIn wsX6_cancel (wsV RX6 117 RX6 yX6_isBelow wsX6_isBelow) := goodIn_app (goodIn_of _ (by decide +kernel)) ggX6_cancel_X6_isBelow
theorem dX6_cancel_0 : decode cX6_cancel 0 = .ok (.aload_n 0, 1) := by decide +kernel
theorem dX6_cancel_1 : decode cX6_cancel 1 = .ok (.iload_n 1, 1) := by decide +kernel
theorem dX6_cancel_2 : decode cX6_cancel 2 = .ok (.iconst 0, 1) := by decide +kernel
theorem dX6_cancel_3 : decode cX6_cancel 3 = .ok (.aload_n 0, 1) := by decide +kernel
theorem dX6_cancel_4 : decode cX6_cancel 4 = .ok (.getfield 98, 3) := by decide +kernel
theorem dX6_cancel_7 : decode cX6_cancel 7 = .ok (.iconst 1, 1) := by decide +kernel
theorem dX6_cancel_8 : decode cX6_cancel 8 = .ok (.isub, 1) := by decide +kernel
theorem dX6_cancel_9 : decode cX6_cancel 9 = .ok (.invokestatic 94, 3) := by decide +kernel
theorem dX6_cancel_12 : decode cX6_cancel 12 = .ok (.ifCond .ne 7, 3) := by decide +kernel
theorem dX6_cancel_15 : decode cX6_cancel 15 = .ok (.iconst 1, 1) := by decide +kernel
theorem dX6_cancel_16 : decode cX6_cancel 16 = .ok (.goto 17, 3) := by decide +kernel
theorem dX6_cancel_19 : decode cX6_cancel 19 = .ok (.aload_n 0, 1) := by decide +kernel
theorem dX6_cancel_20 : decode cX6_cancel 20 = .ok (.getfield 26, 3) := by decide +kernel
theorem dX6_cancel_23 : decode cX6_cancel 23 = .ok (.iload_n 1, 1) := by decide +kernel
theorem dX6_cancel_24 : decode cX6_cancel 24 = .ok (.baload, 1) := by decide +kernel
theorem dX6_cancel_25 : decode cX6_cancel 25 = .ok (.ifCond .eq 7, 3) := by decide +kernel
theorem dX6_cancel_28 : decode cX6_cancel 28 = .ok (.iconst 2, 1) := by decide +kernel
theorem dX6_cancel_29 : decode cX6_cancel 29 = .ok (.goto 4, 3) := by decide +kernel
theorem dX6_cancel_32 : decode cX6_cancel 32 = .ok (.iconst 0, 1) := by decide +kernel
theorem dX6_cancel_33 : decode cX6_cancel 33 = .ok (.putfield 91, 3) := by decide +kernel
theorem dX6_cancel_36 : decode cX6_cancel 36 = .ok (.aload_n 0, 1) := by decide +kernel
theorem dX6_cancel_37 : decode cX6_cancel 37 = .ok (.getfield 91, 3) := by decide +kernel
theorem dX6_cancel_40 : decode cX6_cancel 40 = .ok (.ifCond .le 4, 3) := by decide +kernel
theorem dX6_cancel_43 : decode cX6_cancel 43 = .ok (.return_, 1) := by decide +kernel
theorem dX6_cancel_44 : decode cX6_cancel 44 = .ok (.aload_n 0, 1) := by decide +kernel
theorem dX6_cancel_45 : decode cX6_cancel 45 = .ok (.getfield 26, 3) := by decide +kernel
theorem dX6_cancel_48 : decode cX6_cancel 48 = .ok (.iload_n 1, 1) := by decide +kernel
theorem dX6_cancel_49 : decode cX6_cancel 49 = .ok (.iconst 1, 1) := by decide +kernel
theorem dX6_cancel_50 : decode cX6_cancel 50 = .ok (.bastore, 1) := by decide +kernel
theorem dX6_cancel_51 : decode cX6_cancel 51 = .ok (.aload_n 0, 1) := by decide +kernel
theorem dX6_cancel_52 : decode cX6_cancel 52 = .ok (.aload_n 0, 1) := by decide +kernel
theorem dX6_cancel_53 : decode cX6_cancel 53 = .ok (.getfield 7, 3) := by decide +kernel
theorem dX6_cancel_56 : decode cX6_cancel 56 = .ok (.iload_n 1, 1) := by decide +kernel
theorem dX6_cancel_57 : decode cX6_cancel 57 = .ok (.iaload, 1) := by decide +kernel
theorem dX6_cancel_58 : decode cX6_cancel 58 = .ok (.invokevirtual 117, 3) := by decide +kernel
theorem dX6_cancel_61 : decode cX6_cancel 61 = .ok (.ifCond .eq 15, 3) := by decide +kernel
theorem dX6_cancel_64 : decode cX6_cancel 64 = .ok (.aload_n 0, 1) := by decide +kernel
theorem dX6_cancel_65 : decode cX6_cancel 65 = .ok (.getfield 26, 3) := by decide +kernel
theorem dX6_cancel_68 : decode cX6_cancel 68 = .ok (.iload_n 1, 1) := by decide +kernel
theorem dX6_cancel_69 : decode cX6_cancel 69 = .ok (.iconst 0, 1) := by decide +kernel
theorem dX6_cancel_70 : decode cX6_cancel 70 = .ok (.bastore, 1) := by decide +kernel
theorem dX6_cancel_71 : decode cX6_cancel 71 = .ok (.aload_n 0, 1) := by decide +kernel
theorem dX6_cancel_72 : decode cX6_cancel 72 = .ok (.iconst 2, 1) := by decide +kernel
theorem dX6_cancel_73 : decode cX6_cancel 73 = .ok (.putfield 91, 3) := by decide +kernel
theorem dX6_cancel_76 : decode cX6_cancel 76 = .ok (.return_, 1) := by decide +kernel
set_option maxRecDepth 20000 in
theorem ggX6_setAllowance_X6_isIn : GoodIn wsX6_setAllowance wsX6_isIn := goodIn_r _ [7] (by decide +kernel) (by decide +kernel)
set_option maxRecDepth 20000 in
theorem gX6_setAllowance_X6_isIn : GoodIn wsX6_setAllowance (va_wsS RX6 94 yX6_isIn wsX6_isIn) := goodIn_app (goodIn_of _ (by decide +kernel)) ggX6_setAllowance_X6_isIn
theorem dX6_setAllowance_0 : decode cX6_setAllowance 0 = .ok (.aload_n 0, 1) := by decide +kernel
theorem dX6_setAllowance_1 : decode cX6_setAllowance 1 = .ok (.iload_n 1, 1) := by decide +kernel
theorem dX6_setAllowance_2 : decode cX6_setAllowance 2 = .ok (.iconst 0, 1) := by decide +kernel
theorem dX6_setAllowance_3 : decode cX6_setAllowance 3 = .ok (.iconst 4, 1) := by decide +kernel
theorem dX6_setAllowance_4 : decode cX6_setAllowance 4 = .ok (.invokestatic 94, 3) := by decide +kernel
theorem dX6_setAllowance_7 : decode cX6_setAllowance 7 = .ok (.ifCond .ne 7, 3) := by decide +kernel
theorem dX6_setAllowance_10 : decode cX6_setAllowance 10 = .ok (.iconst 1, 1) := by decide +kernel
theorem dX6_setAllowance_11 : decode cX6_setAllowance 11 = .ok (.goto 18, 3) := by decide +kernel
theorem dX6_setAllowance_14 : decode cX6_setAllowance 14 = .ok (.iload_n 2, 1) := by decide +kernel
theorem dX6_setAllowance_15 : decode cX6_setAllowance 15 = .ok (.iconst 0, 1) := by decide +kernel
theorem dX6_setAllowance_16 : decode cX6_setAllowance 16 = .ok (.ldc 116, 2) := by decide +kernel
theorem dX6_setAllowance_18 : decode cX6_setAllowance 18 = .ok (.invokestatic 94, 3) := by decide +kernel
theorem dX6_setAllowance_21 : decode cX6_setAllowance 21 = .ok (.ifCond .eq 7, 3) := by decide +kernel
theorem dX6_setAllowance_24 : decode cX6_setAllowance 24 = .ok (.iconst 0, 1) := by decide +kernel
theorem dX6_setAllowance_25 : decode cX6_setAllowance 25 = .ok (.goto 4, 3) := by decide +kernel
theorem dX6_setAllowance_28 : decode cX6_setAllowance 28 = .ok (.iconst 2, 1) := by decide +kernel
theorem dX6_setAllowance_29 : decode cX6_setAllowance 29 = .ok (.putfield 91, 3) := by decide +kernel
theorem dX6_setAllowance_32 : decode cX6_setAllowance 32 = .ok (.aload_n 0, 1) := by decide +kernel
theorem dX6_setAllowance_33 : decode cX6_setAllowance 33 = .ok (.getfield 91, 3) := by decide +kernel
theorem dX6_setAllowance_36 : decode cX6_setAllowance 36 = .ok (.ifCond .le 5, 3) := by decide +kernel
theorem dX6_setAllowance_39 : decode cX6_setAllowance 39 = .ok (.iconst 0, 1) := by decide +kernel
theorem dX6_setAllowance_40 : decode cX6_setAllowance 40 = .ok (.ireturn, 1) := by decide +kernel
theorem dX6_setAllowance_41 : decode cX6_setAllowance 41 = .ok (.aload_n 0, 1) := by decide +kernel
theorem dX6_setAllowance_42 : decode cX6_setAllowance 42 = .ok (.getfield 38, 3) := by decide +kernel
theorem dX6_setAllowance_45 : decode cX6_setAllowance 45 = .ok (.iload_n 1, 1) := by decide +kernel
theorem dX6_setAllowance_46 : decode cX6_setAllowance 46 = .ok (.iaload, 1) := by decide +kernel
theorem dX6_setAllowance_47 : decode cX6_setAllowance 47 = .ok (.istore_n 3, 1) := by decide +kernel
theorem dX6_setAllowance_48 : decode cX6_setAllowance 48 = .ok (.aload_n 0, 1) := by decide +kernel
theorem dX6_setAllowance_49 : decode cX6_setAllowance 49 = .ok (.getfield 38, 3) := by decide +kernel
theorem dX6_setAllowance_52 : decode cX6_setAllowance 52 = .ok (.iload_n 1, 1) := by decide +kernel
theorem dX6_setAllowance_53 : decode cX6_setAllowance 53 = .ok (.iload_n 2, 1) := by decide +kernel
theorem dX6_setAllowance_54 : decode cX6_setAllowance 54 = .ok (.iastore, 1) := by decide +kernel
theorem dX6_setAllowance_55 : decode cX6_setAllowance 55 = .ok (.iload_n 3, 1) := by decide +kernel
theorem dX6_setAllowance_56 : decode cX6_setAllowance 56 = .ok (.ireturn, 1) := by decide +kernel
set_option maxRecDepth 20000 in
theorem ggX6_setWindow_X6_isIn : GoodIn wsX6_setWindow wsX6_isIn := goodIn_r _ [6] (by decide +kernel) (by decide +kernel)
set_option maxRecDepth 20000 in
theorem gX6_setWindow_X6_isIn : GoodIn wsX6_setWindow (va_wsS RX6 94 yX6_isIn wsX6_isIn) := goodIn_app (goodIn_of _ (by decide +kernel)) ggX6_setWindow_X6_isIn
theorem dX6_setWindow_0 : decode cX6_setWindow 0 = .ok (.aload_n 0, 1) := by decide +kernel
theorem dX6_setWindow_1 : decode cX6_setWindow 1 = .ok (.iload_n 1, 1) := by decide +kernel
theorem dX6_setWindow_2 : decode cX6_setWindow 2 = .ok (.iconst 0, 1) := by decide +kernel
theorem dX6_setWindow_3 : decode cX6_setWindow 3 = .ok (.bipush 60, 2) := by decide +kernel
theorem dX6_setWindow_5 : decode cX6_setWindow 5 = .ok (.invokestatic 94, 3) := by decide +kernel
theorem dX6_setWindow_8 : decode cX6_setWindow 8 = .ok (.ifCond .eq 7, 3) := by decide +kernel
theorem dX6_setWindow_11 : decode cX6_setWindow 11 = .ok (.iconst 0, 1) := by decide +kernel
theorem dX6_setWindow_12 : decode cX6_setWindow 12 = .ok (.goto 4, 3) := by decide +kernel
theorem dX6_setWindow_15 : decode cX6_setWindow 15 = .ok (.iconst 1, 1) := by decide +kernel
theorem dX6_setWindow_16 : decode cX6_setWindow 16 = .ok (.putfield 91, 3) := by decide +kernel
theorem dX6_setWindow_19 : decode cX6_setWindow 19 = .ok (.aload_n 0, 1) := by decide +kernel
theorem dX6_setWindow_20 : decode cX6_setWindow 20 = .ok (.getfield 91, 3) := by decide +kernel
theorem dX6_setWindow_23 : decode cX6_setWindow 23 = .ok (.ifCond .le 5, 3) := by decide +kernel
theorem dX6_setWindow_26 : decode cX6_setWindow 26 = .ok (.iconst 0, 1) := by decide +kernel
theorem dX6_setWindow_27 : decode cX6_setWindow 27 = .ok (.ireturn, 1) := by decide +kernel
theorem dX6_setWindow_28 : decode cX6_setWindow 28 = .ok (.aload_n 0, 1) := by decide +kernel
theorem dX6_setWindow_29 : decode cX6_setWindow 29 = .ok (.getfield 41, 3) := by decide +kernel
theorem dX6_setWindow_32 : decode cX6_setWindow 32 = .ok (.istore_n 2, 1) := by decide +kernel
theorem dX6_setWindow_33 : decode cX6_setWindow 33 = .ok (.aload_n 0, 1) := by decide +kernel
theorem dX6_setWindow_34 : decode cX6_setWindow 34 = .ok (.iload_n 1, 1) := by decide +kernel
theorem dX6_setWindow_35 : decode cX6_setWindow 35 = .ok (.putfield 41, 3) := by decide +kernel
theorem dX6_setWindow_38 : decode cX6_setWindow 38 = .ok (.iload_n 2, 1) := by decide +kernel
theorem dX6_setWindow_39 : decode cX6_setWindow 39 = .ok (.ireturn, 1) := by decide +kernel
set_option maxRecDepth 20000 in
theorem ggX6_laysDays_X6_later : GoodIn wsX6_laysDays wsX6_later := goodIn_r _ [20, 21, 22, 23, 24, 25, 26, 27, 28, 29, 30, 31, 32, 33, 34, 35, 36, 37, 38, 39, 40, 41, 42, 43, 44, 45, 46, 47, 48, 49, 50, 51, 52, 53] (by decide +kernel) (by decide +kernel)
set_option maxRecDepth 20000 in
theorem gX6_laysDays_X6_later : GoodIn wsX6_laysDays (wsV RX6 101 RX6 yX6_later wsX6_later) := goodIn_app (goodIn_of _ (by decide +kernel)) ggX6_laysDays_X6_later
theorem dX6_laysDays_0 : decode cX6_laysDays 0 = .ok (.aload_n 0, 1) := by decide +kernel
theorem dX6_laysDays_1 : decode cX6_laysDays 1 = .ok (.iconst 0, 1) := by decide +kernel
theorem dX6_laysDays_2 : decode cX6_laysDays 2 = .ok (.putfield 124, 3) := by decide +kernel
theorem dX6_laysDays_5 : decode cX6_laysDays 5 = .ok (.iconst 0, 1) := by decide +kernel
theorem dX6_laysDays_6 : decode cX6_laysDays 6 = .ok (.istore_n 2, 1) := by decide +kernel
theorem dX6_laysDays_7 : decode cX6_laysDays 7 = .ok (.iload_n 2, 1) := by decide +kernel
theorem dX6_laysDays_8 : decode cX6_laysDays 8 = .ok (.sipush 1825, 3) := by decide +kernel
theorem dX6_laysDays_11 : decode cX6_laysDays 11 = .ok (.if_icmp .ge 277, 3) := by decide +kernel
theorem dX6_laysDays_14 : decode cX6_laysDays 14 = .ok (.iconst 0, 1) := by decide +kernel
theorem dX6_laysDays_15 : decode cX6_laysDays 15 = .ok (.istore_n 3, 1) := by decide +kernel
theorem dX6_laysDays_16 : decode cX6_laysDays 16 = .ok (.iconst 0, 1) := by decide +kernel
theorem dX6_laysDays_17 : decode cX6_laysDays 17 = .ok (.istore 4, 2) := by decide +kernel
theorem dX6_laysDays_19 : decode cX6_laysDays 19 = .ok (.iload 4, 2) := by decide +kernel
theorem dX6_laysDays_21 : decode cX6_laysDays 21 = .ok (.aload_n 0, 1) := by decide +kernel
theorem dX6_laysDays_22 : decode cX6_laysDays 22 = .ok (.getfield 98, 3) := by decide +kernel
theorem dX6_laysDays_25 : decode cX6_laysDays 25 = .ok (.if_icmp .ge 239, 3) := by decide +kernel
theorem dX6_laysDays_28 : decode cX6_laysDays 28 = .ok (.aload_n 0, 1) := by decide +kernel
theorem dX6_laysDays_29 : decode cX6_laysDays 29 = .ok (.getfield 26, 3) := by decide +kernel
theorem dX6_laysDays_32 : decode cX6_laysDays 32 = .ok (.iload 4, 2) := by decide +kernel
theorem dX6_laysDays_34 : decode cX6_laysDays 34 = .ok (.baload, 1) := by decide +kernel
theorem dX6_laysDays_35 : decode cX6_laysDays 35 = .ok (.ifCond .ne 223, 3) := by decide +kernel
theorem dX6_laysDays_38 : decode cX6_laysDays 38 = .ok (.aload_n 0, 1) := by decide +kernel
theorem dX6_laysDays_39 : decode cX6_laysDays 39 = .ok (.getfield 7, 3) := by decide +kernel
theorem dX6_laysDays_42 : decode cX6_laysDays 42 = .ok (.iload 4, 2) := by decide +kernel
theorem dX6_laysDays_44 : decode cX6_laysDays 44 = .ok (.iaload, 1) := by decide +kernel
theorem dX6_laysDays_45 : decode cX6_laysDays 45 = .ok (.iload_n 1, 1) := by decide +kernel
theorem dX6_laysDays_46 : decode cX6_laysDays 46 = .ok (.if_icmp .ne 212, 3) := by decide +kernel
theorem dX6_laysDays_49 : decode cX6_laysDays 49 = .ok (.aload_n 0, 1) := by decide +kernel
theorem dX6_laysDays_50 : decode cX6_laysDays 50 = .ok (.getfield 13, 3) := by decide +kernel
theorem dX6_laysDays_53 : decode cX6_laysDays 53 = .ok (.iload 4, 2) := by decide +kernel
theorem dX6_laysDays_55 : decode cX6_laysDays 55 = .ok (.iaload, 1) := by decide +kernel
theorem dX6_laysDays_56 : decode cX6_laysDays 56 = .ok (.iload_n 2, 1) := by decide +kernel
theorem dX6_laysDays_57 : decode cX6_laysDays 57 = .ok (.if_icmp .ne 201, 3) := by decide +kernel
theorem dX6_laysDays_60 : decode cX6_laysDays 60 = .ok (.iload_n 3, 1) := by decide +kernel
theorem dX6_laysDays_61 : decode cX6_laysDays 61 = .ok (.ifCond .ne 53, 3) := by decide +kernel
theorem dX6_laysDays_64 : decode cX6_laysDays 64 = .ok (.aload_n 0, 1) := by decide +kernel
theorem dX6_laysDays_65 : decode cX6_laysDays 65 = .ok (.getfield 45, 3) := by decide +kernel
theorem dX6_laysDays_68 : decode cX6_laysDays 68 = .ok (.aload_n 0, 1) := by decide +kernel
theorem dX6_laysDays_69 : decode cX6_laysDays 69 = .ok (.getfield 124, 3) := by decide +kernel
theorem dX6_laysDays_72 : decode cX6_laysDays 72 = .ok (.iload_n 2, 1) := by decide +kernel
theorem dX6_laysDays_73 : decode cX6_laysDays 73 = .ok (.iastore, 1) := by decide +kernel
theorem dX6_laysDays_74 : decode cX6_laysDays 74 = .ok (.aload_n 0, 1) := by decide +kernel
theorem dX6_laysDays_75 : decode cX6_laysDays 75 = .ok (.getfield 48, 3) := by decide +kernel
theorem dX6_laysDays_78 : decode cX6_laysDays 78 = .ok (.aload_n 0, 1) := by decide +kernel
theorem dX6_laysDays_79 : decode cX6_laysDays 79 = .ok (.getfield 124, 3) := by decide +kernel
theorem dX6_laysDays_82 : decode cX6_laysDays 82 = .ok (.lconst 0, 1) := by decide +kernel
theorem dX6_laysDays_83 : decode cX6_laysDays 83 = .ok (.lastore, 1) := by decide +kernel
theorem dX6_laysDays_84 : decode cX6_laysDays 84 = .ok (.aload_n 0, 1) := by decide +kernel
theorem dX6_laysDays_85 : decode cX6_laysDays 85 = .ok (.getfield 52, 3) := by decide +kernel
theorem dX6_laysDays_88 : decode cX6_laysDays 88 = .ok (.aload_n 0, 1) := by decide +kernel
theorem dX6_laysDays_89 : decode cX6_laysDays 89 = .ok (.getfield 124, 3) := by decide +kernel
theorem dX6_laysDays_92 : decode cX6_laysDays 92 = .ok (.lconst 0, 1) := by decide +kernel
theorem dX6_laysDays_93 : decode cX6_laysDays 93 = .ok (.lastore, 1) := by decide +kernel
theorem dX6_laysDays_94 : decode cX6_laysDays 94 = .ok (.aload_n 0, 1) := by decide +kernel
theorem dX6_laysDays_95 : decode cX6_laysDays 95 = .ok (.getfield 55, 3) := by decide +kernel
theorem dX6_laysDays_98 : decode cX6_laysDays 98 = .ok (.aload_n 0, 1) := by decide +kernel
theorem dX6_laysDays_99 : decode cX6_laysDays 99 = .ok (.getfield 124, 3) := by decide +kernel
theorem dX6_laysDays_102 : decode cX6_laysDays 102 = .ok (.lconst 0, 1) := by decide +kernel
theorem dX6_laysDays_103 : decode cX6_laysDays 103 = .ok (.lastore, 1) := by decide +kernel
theorem dX6_laysDays_104 : decode cX6_laysDays 104 = .ok (.aload_n 0, 1) := by decide +kernel
theorem dX6_laysDays_105 : decode cX6_laysDays 105 = .ok (.getfield 58, 3) := by decide +kernel
theorem dX6_laysDays_108 : decode cX6_laysDays 108 = .ok (.aload_n 0, 1) := by decide +kernel
theorem dX6_laysDays_109 : decode cX6_laysDays 109 = .ok (.getfield 124, 3) := by decide +kernel
theorem dX6_laysDays_112 : decode cX6_laysDays 112 = .ok (.lconst 0, 1) := by decide +kernel
theorem dX6_laysDays_113 : decode cX6_laysDays 113 = .ok (.lastore, 1) := by decide +kernel
theorem dX6_laysDays_114 : decode cX6_laysDays 114 = .ok (.iconst 1, 1) := by decide +kernel
theorem dX6_laysDays_115 : decode cX6_laysDays 115 = .ok (.istore_n 3, 1) := by decide +kernel
theorem dX6_laysDays_116 : decode cX6_laysDays 116 = .ok (.aload_n 0, 1) := by decide +kernel
theorem dX6_laysDays_117 : decode cX6_laysDays 117 = .ok (.getfield 16, 3) := by decide +kernel
theorem dX6_laysDays_120 : decode cX6_laysDays 120 = .ok (.iload 4, 2) := by decide +kernel
theorem dX6_laysDays_122 : decode cX6_laysDays 122 = .ok (.iaload, 1) := by decide +kernel
theorem dX6_laysDays_123 : decode cX6_laysDays 123 = .ok (.i2l, 1) := by decide +kernel
theorem dX6_laysDays_124 : decode cX6_laysDays 124 = .ok (.aload_n 0, 1) := by decide +kernel
theorem dX6_laysDays_125 : decode cX6_laysDays 125 = .ok (.iload_n 1, 1) := by decide +kernel
theorem dX6_laysDays_126 : decode cX6_laysDays 126 = .ok (.iload_n 2, 1) := by decide +kernel
theorem dX6_laysDays_127 : decode cX6_laysDays 127 = .ok (.invokevirtual 101, 3) := by decide +kernel
theorem dX6_laysDays_130 : decode cX6_laysDays 130 = .ok (.i2l, 1) := by decide +kernel
theorem dX6_laysDays_131 : decode cX6_laysDays 131 = .ok (.lmul, 1) := by decide +kernel
theorem dX6_laysDays_132 : decode cX6_laysDays 132 = .ok (.lstore 5, 2) := by decide +kernel
theorem dX6_laysDays_134 : decode cX6_laysDays 134 = .ok (.aload_n 0, 1) := by decide +kernel
theorem dX6_laysDays_135 : decode cX6_laysDays 135 = .ok (.getfield 48, 3) := by decide +kernel
theorem dX6_laysDays_138 : decode cX6_laysDays 138 = .ok (.aload_n 0, 1) := by decide +kernel
theorem dX6_laysDays_139 : decode cX6_laysDays 139 = .ok (.getfield 124, 3) := by decide +kernel
theorem dX6_laysDays_142 : decode cX6_laysDays 142 = .ok (.dup2, 1) := by decide +kernel
theorem dX6_laysDays_143 : decode cX6_laysDays 143 = .ok (.laload, 1) := by decide +kernel
theorem dX6_laysDays_144 : decode cX6_laysDays 144 = .ok (.aload_n 0, 1) := by decide +kernel
theorem dX6_laysDays_145 : decode cX6_laysDays 145 = .ok (.getfield 22, 3) := by decide +kernel
theorem dX6_laysDays_148 : decode cX6_laysDays 148 = .ok (.iload 4, 2) := by decide +kernel
theorem dX6_laysDays_150 : decode cX6_laysDays 150 = .ok (.baload, 1) := by decide +kernel
theorem dX6_laysDays_151 : decode cX6_laysDays 151 = .ok (.ifCond .eq 7, 3) := by decide +kernel
theorem dX6_laysDays_154 : decode cX6_laysDays 154 = .ok (.lconst 0, 1) := by decide +kernel
theorem dX6_laysDays_155 : decode cX6_laysDays 155 = .ok (.goto 5, 3) := by decide +kernel
theorem dX6_laysDays_158 : decode cX6_laysDays 158 = .ok (.lload 5, 2) := by decide +kernel
theorem dX6_laysDays_160 : decode cX6_laysDays 160 = .ok (.ladd, 1) := by decide +kernel
theorem dX6_laysDays_161 : decode cX6_laysDays 161 = .ok (.lastore, 1) := by decide +kernel
theorem dX6_laysDays_162 : decode cX6_laysDays 162 = .ok (.aload_n 0, 1) := by decide +kernel
theorem dX6_laysDays_163 : decode cX6_laysDays 163 = .ok (.getfield 52, 3) := by decide +kernel
theorem dX6_laysDays_166 : decode cX6_laysDays 166 = .ok (.aload_n 0, 1) := by decide +kernel
theorem dX6_laysDays_167 : decode cX6_laysDays 167 = .ok (.getfield 124, 3) := by decide +kernel
theorem dX6_laysDays_170 : decode cX6_laysDays 170 = .ok (.dup2, 1) := by decide +kernel
theorem dX6_laysDays_171 : decode cX6_laysDays 171 = .ok (.laload, 1) := by decide +kernel
theorem dX6_laysDays_172 : decode cX6_laysDays 172 = .ok (.aload_n 0, 1) := by decide +kernel
theorem dX6_laysDays_173 : decode cX6_laysDays 173 = .ok (.getfield 22, 3) := by decide +kernel
theorem dX6_laysDays_176 : decode cX6_laysDays 176 = .ok (.iload 4, 2) := by decide +kernel
theorem dX6_laysDays_178 : decode cX6_laysDays 178 = .ok (.baload, 1) := by decide +kernel
theorem dX6_laysDays_179 : decode cX6_laysDays 179 = .ok (.ifCond .eq 7, 3) := by decide +kernel
theorem dX6_laysDays_182 : decode cX6_laysDays 182 = .ok (.lconst 0, 1) := by decide +kernel
theorem dX6_laysDays_183 : decode cX6_laysDays 183 = .ok (.goto 11, 3) := by decide +kernel
theorem dX6_laysDays_186 : decode cX6_laysDays 186 = .ok (.aload_n 0, 1) := by decide +kernel
theorem dX6_laysDays_187 : decode cX6_laysDays 187 = .ok (.getfield 19, 3) := by decide +kernel
theorem dX6_laysDays_190 : decode cX6_laysDays 190 = .ok (.iload 4, 2) := by decide +kernel
theorem dX6_laysDays_192 : decode cX6_laysDays 192 = .ok (.iaload, 1) := by decide +kernel
theorem dX6_laysDays_193 : decode cX6_laysDays 193 = .ok (.i2l, 1) := by decide +kernel
theorem dX6_laysDays_194 : decode cX6_laysDays 194 = .ok (.ladd, 1) := by decide +kernel
theorem dX6_laysDays_195 : decode cX6_laysDays 195 = .ok (.lastore, 1) := by decide +kernel
theorem dX6_laysDays_196 : decode cX6_laysDays 196 = .ok (.aload_n 0, 1) := by decide +kernel
theorem dX6_laysDays_197 : decode cX6_laysDays 197 = .ok (.getfield 55, 3) := by decide +kernel
theorem dX6_laysDays_200 : decode cX6_laysDays 200 = .ok (.aload_n 0, 1) := by decide +kernel
theorem dX6_laysDays_201 : decode cX6_laysDays 201 = .ok (.getfield 124, 3) := by decide +kernel
theorem dX6_laysDays_204 : decode cX6_laysDays 204 = .ok (.dup2, 1) := by decide +kernel
theorem dX6_laysDays_205 : decode cX6_laysDays 205 = .ok (.laload, 1) := by decide +kernel
theorem dX6_laysDays_206 : decode cX6_laysDays 206 = .ok (.aload_n 0, 1) := by decide +kernel
theorem dX6_laysDays_207 : decode cX6_laysDays 207 = .ok (.getfield 22, 3) := by decide +kernel
theorem dX6_laysDays_210 : decode cX6_laysDays 210 = .ok (.iload 4, 2) := by decide +kernel
theorem dX6_laysDays_212 : decode cX6_laysDays 212 = .ok (.baload, 1) := by decide +kernel
theorem dX6_laysDays_213 : decode cX6_laysDays 213 = .ok (.ifCond .eq 8, 3) := by decide +kernel
theorem dX6_laysDays_216 : decode cX6_laysDays 216 = .ok (.lload 5, 2) := by decide +kernel
theorem dX6_laysDays_218 : decode cX6_laysDays 218 = .ok (.goto 4, 3) := by decide +kernel
theorem dX6_laysDays_221 : decode cX6_laysDays 221 = .ok (.lconst 0, 1) := by decide +kernel
theorem dX6_laysDays_222 : decode cX6_laysDays 222 = .ok (.ladd, 1) := by decide +kernel
theorem dX6_laysDays_223 : decode cX6_laysDays 223 = .ok (.lastore, 1) := by decide +kernel
theorem dX6_laysDays_224 : decode cX6_laysDays 224 = .ok (.aload_n 0, 1) := by decide +kernel
theorem dX6_laysDays_225 : decode cX6_laysDays 225 = .ok (.getfield 58, 3) := by decide +kernel
theorem dX6_laysDays_228 : decode cX6_laysDays 228 = .ok (.aload_n 0, 1) := by decide +kernel
theorem dX6_laysDays_229 : decode cX6_laysDays 229 = .ok (.getfield 124, 3) := by decide +kernel
theorem dX6_laysDays_232 : decode cX6_laysDays 232 = .ok (.dup2, 1) := by decide +kernel
theorem dX6_laysDays_233 : decode cX6_laysDays 233 = .ok (.laload, 1) := by decide +kernel
theorem dX6_laysDays_234 : decode cX6_laysDays 234 = .ok (.aload_n 0, 1) := by decide +kernel
theorem dX6_laysDays_235 : decode cX6_laysDays 235 = .ok (.getfield 22, 3) := by decide +kernel
theorem dX6_laysDays_238 : decode cX6_laysDays 238 = .ok (.iload 4, 2) := by decide +kernel
theorem dX6_laysDays_240 : decode cX6_laysDays 240 = .ok (.baload, 1) := by decide +kernel
theorem dX6_laysDays_241 : decode cX6_laysDays 241 = .ok (.ifCond .eq 14, 3) := by decide +kernel
theorem dX6_laysDays_244 : decode cX6_laysDays 244 = .ok (.aload_n 0, 1) := by decide +kernel
theorem dX6_laysDays_245 : decode cX6_laysDays 245 = .ok (.getfield 19, 3) := by decide +kernel
theorem dX6_laysDays_248 : decode cX6_laysDays 248 = .ok (.iload 4, 2) := by decide +kernel
theorem dX6_laysDays_250 : decode cX6_laysDays 250 = .ok (.iaload, 1) := by decide +kernel
theorem dX6_laysDays_251 : decode cX6_laysDays 251 = .ok (.i2l, 1) := by decide +kernel
theorem dX6_laysDays_252 : decode cX6_laysDays 252 = .ok (.goto 4, 3) := by decide +kernel
theorem dX6_laysDays_255 : decode cX6_laysDays 255 = .ok (.lconst 0, 1) := by decide +kernel
theorem dX6_laysDays_256 : decode cX6_laysDays 256 = .ok (.ladd, 1) := by decide +kernel
theorem dX6_laysDays_257 : decode cX6_laysDays 257 = .ok (.lastore, 1) := by decide +kernel
theorem dX6_laysDays_258 : decode cX6_laysDays 258 = .ok (.iinc 4 1, 3) := by decide +kernel
theorem dX6_laysDays_261 : decode cX6_laysDays 261 = .ok (.goto (-242), 3) := by decide +kernel
theorem dX6_laysDays_264 : decode cX6_laysDays 264 = .ok (.aload_n 0, 1) := by decide +kernel
theorem dX6_laysDays_265 : decode cX6_laysDays 265 = .ok (.dup, 1) := by decide +kernel
theorem dX6_laysDays_266 : decode cX6_laysDays 266 = .ok (.getfield 124, 3) := by decide +kernel
theorem dX6_laysDays_269 : decode cX6_laysDays 269 = .ok (.iload_n 3, 1) := by decide +kernel
theorem dX6_laysDays_270 : decode cX6_laysDays 270 = .ok (.ifCond .eq 7, 3) := by decide +kernel
theorem dX6_laysDays_273 : decode cX6_laysDays 273 = .ok (.iconst 1, 1) := by decide +kernel
theorem dX6_laysDays_274 : decode cX6_laysDays 274 = .ok (.goto 4, 3) := by decide +kernel
theorem dX6_laysDays_277 : decode cX6_laysDays 277 = .ok (.iconst 0, 1) := by decide +kernel
theorem dX6_laysDays_278 : decode cX6_laysDays 278 = .ok (.iadd, 1) := by decide +kernel
theorem dX6_laysDays_279 : decode cX6_laysDays 279 = .ok (.putfield 124, 3) := by decide +kernel
theorem dX6_laysDays_282 : decode cX6_laysDays 282 = .ok (.iinc 2 1, 3) := by decide +kernel
theorem dX6_laysDays_285 : decode cX6_laysDays 285 = .ok (.goto (-278), 3) := by decide +kernel
theorem dX6_laysDays_288 : decode cX6_laysDays 288 = .ok (.iconst 0, 1) := by decide +kernel
theorem dX6_laysDays_289 : decode cX6_laysDays 289 = .ok (.istore_n 2, 1) := by decide +kernel
theorem dX6_laysDays_290 : decode cX6_laysDays 290 = .ok (.iload_n 2, 1) := by decide +kernel
theorem dX6_laysDays_291 : decode cX6_laysDays 291 = .ok (.aload_n 0, 1) := by decide +kernel
theorem dX6_laysDays_292 : decode cX6_laysDays 292 = .ok (.getfield 124, 3) := by decide +kernel
theorem dX6_laysDays_295 : decode cX6_laysDays 295 = .ok (.if_icmp .ge 33, 3) := by decide +kernel
theorem dX6_laysDays_298 : decode cX6_laysDays 298 = .ok (.aload_n 0, 1) := by decide +kernel
theorem dX6_laysDays_299 : decode cX6_laysDays 299 = .ok (.getfield 61, 3) := by decide +kernel
theorem dX6_laysDays_302 : decode cX6_laysDays 302 = .ok (.iload_n 2, 1) := by decide +kernel
theorem dX6_laysDays_303 : decode cX6_laysDays 303 = .ok (.aload_n 0, 1) := by decide +kernel
theorem dX6_laysDays_304 : decode cX6_laysDays 304 = .ok (.getfield 48, 3) := by decide +kernel
theorem dX6_laysDays_307 : decode cX6_laysDays 307 = .ok (.iload_n 2, 1) := by decide +kernel
theorem dX6_laysDays_308 : decode cX6_laysDays 308 = .ok (.laload, 1) := by decide +kernel
theorem dX6_laysDays_309 : decode cX6_laysDays 309 = .ok (.lastore, 1) := by decide +kernel
theorem dX6_laysDays_310 : decode cX6_laysDays 310 = .ok (.aload_n 0, 1) := by decide +kernel
theorem dX6_laysDays_311 : decode cX6_laysDays 311 = .ok (.getfield 64, 3) := by decide +kernel
theorem dX6_laysDays_314 : decode cX6_laysDays 314 = .ok (.iload_n 2, 1) := by decide +kernel
theorem dX6_laysDays_315 : decode cX6_laysDays 315 = .ok (.aload_n 0, 1) := by decide +kernel
theorem dX6_laysDays_316 : decode cX6_laysDays 316 = .ok (.getfield 55, 3) := by decide +kernel
theorem dX6_laysDays_319 : decode cX6_laysDays 319 = .ok (.iload_n 2, 1) := by decide +kernel
theorem dX6_laysDays_320 : decode cX6_laysDays 320 = .ok (.laload, 1) := by decide +kernel
theorem dX6_laysDays_321 : decode cX6_laysDays 321 = .ok (.lastore, 1) := by decide +kernel
theorem dX6_laysDays_322 : decode cX6_laysDays 322 = .ok (.iinc 2 1, 3) := by decide +kernel
theorem dX6_laysDays_325 : decode cX6_laysDays 325 = .ok (.goto (-35), 3) := by decide +kernel
theorem dX6_laysDays_328 : decode cX6_laysDays 328 = .ok (.return_, 1) := by decide +kernel
theorem dX6_part_0 : decode cX6_part 0 = .ok (.lload_n 0, 1) := by decide +kernel
theorem dX6_part_1 : decode cX6_part 1 = .ok (.lload 4, 2) := by decide +kernel
theorem dX6_part_3 : decode cX6_part 3 = .ok (.lload 6, 2) := by decide +kernel
theorem dX6_part_5 : decode cX6_part 5 = .ok (.ladd, 1) := by decide +kernel
theorem dX6_part_6 : decode cX6_part 6 = .ok (.lmul, 1) := by decide +kernel
theorem dX6_part_7 : decode cX6_part 7 = .ok (.lload_n 2, 1) := by decide +kernel
theorem dX6_part_8 : decode cX6_part 8 = .ok (.ldiv, 1) := by decide +kernel
theorem dX6_part_9 : decode cX6_part 9 = .ok (.lload_n 0, 1) := by decide +kernel
theorem dX6_part_10 : decode cX6_part 10 = .ok (.lload 4, 2) := by decide +kernel
theorem dX6_part_12 : decode cX6_part 12 = .ok (.lmul, 1) := by decide +kernel
theorem dX6_part_13 : decode cX6_part 13 = .ok (.lload_n 2, 1) := by decide +kernel
theorem dX6_part_14 : decode cX6_part 14 = .ok (.ldiv, 1) := by decide +kernel
theorem dX6_part_15 : decode cX6_part 15 = .ok (.lsub, 1) := by decide +kernel
theorem dX6_part_16 : decode cX6_part 16 = .ok (.lreturn, 1) := by decide +kernel
set_option maxRecDepth 20000 in
theorem ggX6_pairs_X6_part : GoodIn wsX6_pairs wsX6_part := goodIn_r _ [17] (by decide +kernel) (by decide +kernel)
set_option maxRecDepth 20000 in
theorem gX6_pairs_X6_part : GoodIn wsX6_pairs (va_wsS RX6 130 yX6_part wsX6_part) := goodIn_app (goodIn_of _ (by decide +kernel)) ggX6_pairs_X6_part
theorem dX6_pairs_0 : decode cX6_pairs 0 = .ok (.aload_n 0, 1) := by decide +kernel
theorem dX6_pairs_1 : decode cX6_pairs 1 = .ok (.getfield 64, 3) := by decide +kernel
theorem dX6_pairs_4 : decode cX6_pairs 4 = .ok (.iload_n 1, 1) := by decide +kernel
theorem dX6_pairs_5 : decode cX6_pairs 5 = .ok (.laload, 1) := by decide +kernel
theorem dX6_pairs_6 : decode cX6_pairs 6 = .ok (.aload_n 0, 1) := by decide +kernel
theorem dX6_pairs_7 : decode cX6_pairs 7 = .ok (.getfield 61, 3) := by decide +kernel
theorem dX6_pairs_10 : decode cX6_pairs 10 = .ok (.iload_n 2, 1) := by decide +kernel
theorem dX6_pairs_11 : decode cX6_pairs 11 = .ok (.laload, 1) := by decide +kernel
theorem dX6_pairs_12 : decode cX6_pairs 12 = .ok (.lcmp, 1) := by decide +kernel
theorem dX6_pairs_13 : decode cX6_pairs 13 = .ok (.ifCond .ge 12, 3) := by decide +kernel
theorem dX6_pairs_16 : decode cX6_pairs 16 = .ok (.aload_n 0, 1) := by decide +kernel
theorem dX6_pairs_17 : decode cX6_pairs 17 = .ok (.getfield 64, 3) := by decide +kernel
theorem dX6_pairs_20 : decode cX6_pairs 20 = .ok (.iload_n 1, 1) := by decide +kernel
theorem dX6_pairs_21 : decode cX6_pairs 21 = .ok (.laload, 1) := by decide +kernel
theorem dX6_pairs_22 : decode cX6_pairs 22 = .ok (.goto 9, 3) := by decide +kernel
theorem dX6_pairs_25 : decode cX6_pairs 25 = .ok (.aload_n 0, 1) := by decide +kernel
theorem dX6_pairs_26 : decode cX6_pairs 26 = .ok (.getfield 61, 3) := by decide +kernel
theorem dX6_pairs_29 : decode cX6_pairs 29 = .ok (.iload_n 2, 1) := by decide +kernel
theorem dX6_pairs_30 : decode cX6_pairs 30 = .ok (.laload, 1) := by decide +kernel
theorem dX6_pairs_31 : decode cX6_pairs 31 = .ok (.lstore 4, 2) := by decide +kernel
theorem dX6_pairs_33 : decode cX6_pairs 33 = .ok (.lload 4, 2) := by decide +kernel
theorem dX6_pairs_35 : decode cX6_pairs 35 = .ok (.lconst 0, 1) := by decide +kernel
theorem dX6_pairs_36 : decode cX6_pairs 36 = .ok (.lcmp, 1) := by decide +kernel
theorem dX6_pairs_37 : decode cX6_pairs 37 = .ok (.ifCond .le 154, 3) := by decide +kernel
theorem dX6_pairs_40 : decode cX6_pairs 40 = .ok (.aload_n 0, 1) := by decide +kernel
theorem dX6_pairs_41 : decode cX6_pairs 41 = .ok (.getfield 73, 3) := by decide +kernel
theorem dX6_pairs_44 : decode cX6_pairs 44 = .ok (.aload_n 0, 1) := by decide +kernel
theorem dX6_pairs_45 : decode cX6_pairs 45 = .ok (.getfield 127, 3) := by decide +kernel
theorem dX6_pairs_48 : decode cX6_pairs 48 = .ok (.iload_n 1, 1) := by decide +kernel
theorem dX6_pairs_49 : decode cX6_pairs 49 = .ok (.iastore, 1) := by decide +kernel
theorem dX6_pairs_50 : decode cX6_pairs 50 = .ok (.aload_n 0, 1) := by decide +kernel
theorem dX6_pairs_51 : decode cX6_pairs 51 = .ok (.getfield 76, 3) := by decide +kernel
theorem dX6_pairs_54 : decode cX6_pairs 54 = .ok (.aload_n 0, 1) := by decide +kernel
theorem dX6_pairs_55 : decode cX6_pairs 55 = .ok (.getfield 127, 3) := by decide +kernel
theorem dX6_pairs_58 : decode cX6_pairs 58 = .ok (.iload_n 2, 1) := by decide +kernel
theorem dX6_pairs_59 : decode cX6_pairs 59 = .ok (.iastore, 1) := by decide +kernel
theorem dX6_pairs_60 : decode cX6_pairs 60 = .ok (.aload_n 0, 1) := by decide +kernel
theorem dX6_pairs_61 : decode cX6_pairs 61 = .ok (.getfield 79, 3) := by decide +kernel
theorem dX6_pairs_64 : decode cX6_pairs 64 = .ok (.aload_n 0, 1) := by decide +kernel
theorem dX6_pairs_65 : decode cX6_pairs 65 = .ok (.getfield 127, 3) := by decide +kernel
theorem dX6_pairs_68 : decode cX6_pairs 68 = .ok (.iload_n 3, 1) := by decide +kernel
theorem dX6_pairs_69 : decode cX6_pairs 69 = .ok (.iastore, 1) := by decide +kernel
theorem dX6_pairs_70 : decode cX6_pairs 70 = .ok (.aload_n 0, 1) := by decide +kernel
theorem dX6_pairs_71 : decode cX6_pairs 71 = .ok (.getfield 82, 3) := by decide +kernel
theorem dX6_pairs_74 : decode cX6_pairs 74 = .ok (.aload_n 0, 1) := by decide +kernel
theorem dX6_pairs_75 : decode cX6_pairs 75 = .ok (.getfield 127, 3) := by decide +kernel
theorem dX6_pairs_78 : decode cX6_pairs 78 = .ok (.lload 4, 2) := by decide +kernel
theorem dX6_pairs_80 : decode cX6_pairs 80 = .ok (.lastore, 1) := by decide +kernel
theorem dX6_pairs_81 : decode cX6_pairs 81 = .ok (.aload_n 0, 1) := by decide +kernel
theorem dX6_pairs_82 : decode cX6_pairs 82 = .ok (.getfield 85, 3) := by decide +kernel
theorem dX6_pairs_85 : decode cX6_pairs 85 = .ok (.aload_n 0, 1) := by decide +kernel
theorem dX6_pairs_86 : decode cX6_pairs 86 = .ok (.getfield 127, 3) := by decide +kernel
theorem dX6_pairs_89 : decode cX6_pairs 89 = .ok (.aload_n 0, 1) := by decide +kernel
theorem dX6_pairs_90 : decode cX6_pairs 90 = .ok (.getfield 52, 3) := by decide +kernel
theorem dX6_pairs_93 : decode cX6_pairs 93 = .ok (.iload_n 2, 1) := by decide +kernel
theorem dX6_pairs_94 : decode cX6_pairs 94 = .ok (.laload, 1) := by decide +kernel
theorem dX6_pairs_95 : decode cX6_pairs 95 = .ok (.aload_n 0, 1) := by decide +kernel
theorem dX6_pairs_96 : decode cX6_pairs 96 = .ok (.getfield 48, 3) := by decide +kernel
theorem dX6_pairs_99 : decode cX6_pairs 99 = .ok (.iload_n 2, 1) := by decide +kernel
theorem dX6_pairs_100 : decode cX6_pairs 100 = .ok (.laload, 1) := by decide +kernel
theorem dX6_pairs_101 : decode cX6_pairs 101 = .ok (.aload_n 0, 1) := by decide +kernel
theorem dX6_pairs_102 : decode cX6_pairs 102 = .ok (.getfield 48, 3) := by decide +kernel
theorem dX6_pairs_105 : decode cX6_pairs 105 = .ok (.iload_n 2, 1) := by decide +kernel
theorem dX6_pairs_106 : decode cX6_pairs 106 = .ok (.laload, 1) := by decide +kernel
theorem dX6_pairs_107 : decode cX6_pairs 107 = .ok (.aload_n 0, 1) := by decide +kernel
theorem dX6_pairs_108 : decode cX6_pairs 108 = .ok (.getfield 61, 3) := by decide +kernel
theorem dX6_pairs_111 : decode cX6_pairs 111 = .ok (.iload_n 2, 1) := by decide +kernel
theorem dX6_pairs_112 : decode cX6_pairs 112 = .ok (.laload, 1) := by decide +kernel
theorem dX6_pairs_113 : decode cX6_pairs 113 = .ok (.lsub, 1) := by decide +kernel
theorem dX6_pairs_114 : decode cX6_pairs 114 = .ok (.lload 4, 2) := by decide +kernel
theorem dX6_pairs_116 : decode cX6_pairs 116 = .ok (.invokestatic 130, 3) := by decide +kernel
theorem dX6_pairs_119 : decode cX6_pairs 119 = .ok (.lastore, 1) := by decide +kernel
theorem dX6_pairs_120 : decode cX6_pairs 120 = .ok (.aload_n 0, 1) := by decide +kernel
theorem dX6_pairs_121 : decode cX6_pairs 121 = .ok (.getfield 88, 3) := by decide +kernel
theorem dX6_pairs_124 : decode cX6_pairs 124 = .ok (.aload_n 0, 1) := by decide +kernel
theorem dX6_pairs_125 : decode cX6_pairs 125 = .ok (.getfield 127, 3) := by decide +kernel
theorem dX6_pairs_128 : decode cX6_pairs 128 = .ok (.aload_n 0, 1) := by decide +kernel
theorem dX6_pairs_129 : decode cX6_pairs 129 = .ok (.getfield 58, 3) := by decide +kernel
theorem dX6_pairs_132 : decode cX6_pairs 132 = .ok (.iload_n 1, 1) := by decide +kernel
theorem dX6_pairs_133 : decode cX6_pairs 133 = .ok (.laload, 1) := by decide +kernel
theorem dX6_pairs_134 : decode cX6_pairs 134 = .ok (.aload_n 0, 1) := by decide +kernel
theorem dX6_pairs_135 : decode cX6_pairs 135 = .ok (.getfield 55, 3) := by decide +kernel
theorem dX6_pairs_138 : decode cX6_pairs 138 = .ok (.iload_n 1, 1) := by decide +kernel
theorem dX6_pairs_139 : decode cX6_pairs 139 = .ok (.laload, 1) := by decide +kernel
theorem dX6_pairs_140 : decode cX6_pairs 140 = .ok (.aload_n 0, 1) := by decide +kernel
theorem dX6_pairs_141 : decode cX6_pairs 141 = .ok (.getfield 55, 3) := by decide +kernel
theorem dX6_pairs_144 : decode cX6_pairs 144 = .ok (.iload_n 1, 1) := by decide +kernel
theorem dX6_pairs_145 : decode cX6_pairs 145 = .ok (.laload, 1) := by decide +kernel
theorem dX6_pairs_146 : decode cX6_pairs 146 = .ok (.aload_n 0, 1) := by decide +kernel
theorem dX6_pairs_147 : decode cX6_pairs 147 = .ok (.getfield 64, 3) := by decide +kernel
theorem dX6_pairs_150 : decode cX6_pairs 150 = .ok (.iload_n 1, 1) := by decide +kernel
theorem dX6_pairs_151 : decode cX6_pairs 151 = .ok (.laload, 1) := by decide +kernel
theorem dX6_pairs_152 : decode cX6_pairs 152 = .ok (.lsub, 1) := by decide +kernel
theorem dX6_pairs_153 : decode cX6_pairs 153 = .ok (.lload 4, 2) := by decide +kernel
theorem dX6_pairs_155 : decode cX6_pairs 155 = .ok (.invokestatic 130, 3) := by decide +kernel
theorem dX6_pairs_158 : decode cX6_pairs 158 = .ok (.lastore, 1) := by decide +kernel
theorem dX6_pairs_159 : decode cX6_pairs 159 = .ok (.aload_n 0, 1) := by decide +kernel
theorem dX6_pairs_160 : decode cX6_pairs 160 = .ok (.dup, 1) := by decide +kernel
theorem dX6_pairs_161 : decode cX6_pairs 161 = .ok (.getfield 127, 3) := by decide +kernel
theorem dX6_pairs_164 : decode cX6_pairs 164 = .ok (.iconst 1, 1) := by decide +kernel
theorem dX6_pairs_165 : decode cX6_pairs 165 = .ok (.iadd, 1) := by decide +kernel
theorem dX6_pairs_166 : decode cX6_pairs 166 = .ok (.putfield 127, 3) := by decide +kernel
theorem dX6_pairs_169 : decode cX6_pairs 169 = .ok (.aload_n 0, 1) := by decide +kernel
theorem dX6_pairs_170 : decode cX6_pairs 170 = .ok (.getfield 61, 3) := by decide +kernel
theorem dX6_pairs_173 : decode cX6_pairs 173 = .ok (.iload_n 2, 1) := by decide +kernel
theorem dX6_pairs_174 : decode cX6_pairs 174 = .ok (.dup2, 1) := by decide +kernel
theorem dX6_pairs_175 : decode cX6_pairs 175 = .ok (.laload, 1) := by decide +kernel
theorem dX6_pairs_176 : decode cX6_pairs 176 = .ok (.lload 4, 2) := by decide +kernel
theorem dX6_pairs_178 : decode cX6_pairs 178 = .ok (.lsub, 1) := by decide +kernel
theorem dX6_pairs_179 : decode cX6_pairs 179 = .ok (.lastore, 1) := by decide +kernel
theorem dX6_pairs_180 : decode cX6_pairs 180 = .ok (.aload_n 0, 1) := by decide +kernel
theorem dX6_pairs_181 : decode cX6_pairs 181 = .ok (.getfield 64, 3) := by decide +kernel
theorem dX6_pairs_184 : decode cX6_pairs 184 = .ok (.iload_n 1, 1) := by decide +kernel
theorem dX6_pairs_185 : decode cX6_pairs 185 = .ok (.dup2, 1) := by decide +kernel
theorem dX6_pairs_186 : decode cX6_pairs 186 = .ok (.laload, 1) := by decide +kernel
theorem dX6_pairs_187 : decode cX6_pairs 187 = .ok (.lload 4, 2) := by decide +kernel
theorem dX6_pairs_189 : decode cX6_pairs 189 = .ok (.lsub, 1) := by decide +kernel
theorem dX6_pairs_190 : decode cX6_pairs 190 = .ok (.lastore, 1) := by decide +kernel
theorem dX6_pairs_191 : decode cX6_pairs 191 = .ok (.return_, 1) := by decide +kernel
set_option maxRecDepth 20000 in
theorem ggX6_pools_X6_part : GoodIn wsX6_pools wsX6_part := goodIn_r _ [20] (by decide +kernel) (by decide +kernel)
set_option maxRecDepth 20000 in
theorem gX6_pools_X6_part : GoodIn wsX6_pools (va_wsS RX6 130 yX6_part wsX6_part) := goodIn_app (goodIn_of _ (by decide +kernel)) ggX6_pools_X6_part
theorem dX6_pools_0 : decode cX6_pools 0 = .ok (.lconst 0, 1) := by decide +kernel
theorem dX6_pools_1 : decode cX6_pools 1 = .ok (.lstore_n 1, 1) := by decide +kernel
theorem dX6_pools_2 : decode cX6_pools 2 = .ok (.lconst 0, 1) := by decide +kernel
theorem dX6_pools_3 : decode cX6_pools 3 = .ok (.lstore_n 3, 1) := by decide +kernel
theorem dX6_pools_4 : decode cX6_pools 4 = .ok (.iconst 0, 1) := by decide +kernel
theorem dX6_pools_5 : decode cX6_pools 5 = .ok (.istore 5, 2) := by decide +kernel
theorem dX6_pools_7 : decode cX6_pools 7 = .ok (.iload 5, 2) := by decide +kernel
theorem dX6_pools_9 : decode cX6_pools 9 = .ok (.aload_n 0, 1) := by decide +kernel
theorem dX6_pools_10 : decode cX6_pools 10 = .ok (.getfield 124, 3) := by decide +kernel
theorem dX6_pools_13 : decode cX6_pools 13 = .ok (.if_icmp .ge 245, 3) := by decide +kernel
theorem dX6_pools_16 : decode cX6_pools 16 = .ok (.aload_n 0, 1) := by decide +kernel
end
section
theorem dX6_pools_17 : decode cX6_pools 17 = .ok (.getfield 61, 3) := by decide +kernel
theorem dX6_pools_20 : decode cX6_pools 20 = .ok (.iload 5, 2) := by decide +kernel
theorem dX6_pools_22 : decode cX6_pools 22 = .ok (.laload, 1) := by decide +kernel
theorem dX6_pools_23 : decode cX6_pools 23 = .ok (.lconst 0, 1) := by decide +kernel
theorem dX6_pools_24 : decode cX6_pools 24 = .ok (.lcmp, 1) := by decide +kernel
theorem dX6_pools_25 : decode cX6_pools 25 = .ok (.ifCond .le 55, 3) := by decide +kernel
theorem dX6_pools_28 : decode cX6_pools 28 = .ok (.lload_n 3, 1) := by decide +kernel
theorem dX6_pools_29 : decode cX6_pools 29 = .ok (.aload_n 0, 1) := by decide +kernel
theorem dX6_pools_30 : decode cX6_pools 30 = .ok (.getfield 52, 3) := by decide +kernel
theorem dX6_pools_33 : decode cX6_pools 33 = .ok (.iload 5, 2) := by decide +kernel
theorem dX6_pools_35 : decode cX6_pools 35 = .ok (.laload, 1) := by decide +kernel
theorem dX6_pools_36 : decode cX6_pools 36 = .ok (.aload_n 0, 1) := by decide +kernel
theorem dX6_pools_37 : decode cX6_pools 37 = .ok (.getfield 48, 3) := by decide +kernel
theorem dX6_pools_40 : decode cX6_pools 40 = .ok (.iload 5, 2) := by decide +kernel
theorem dX6_pools_42 : decode cX6_pools 42 = .ok (.laload, 1) := by decide +kernel
theorem dX6_pools_43 : decode cX6_pools 43 = .ok (.aload_n 0, 1) := by decide +kernel
theorem dX6_pools_44 : decode cX6_pools 44 = .ok (.getfield 48, 3) := by decide +kernel
theorem dX6_pools_47 : decode cX6_pools 47 = .ok (.iload 5, 2) := by decide +kernel
theorem dX6_pools_49 : decode cX6_pools 49 = .ok (.laload, 1) := by decide +kernel
theorem dX6_pools_50 : decode cX6_pools 50 = .ok (.aload_n 0, 1) := by decide +kernel
theorem dX6_pools_51 : decode cX6_pools 51 = .ok (.getfield 61, 3) := by decide +kernel
theorem dX6_pools_54 : decode cX6_pools 54 = .ok (.iload 5, 2) := by decide +kernel
theorem dX6_pools_56 : decode cX6_pools 56 = .ok (.laload, 1) := by decide +kernel
theorem dX6_pools_57 : decode cX6_pools 57 = .ok (.lsub, 1) := by decide +kernel
theorem dX6_pools_58 : decode cX6_pools 58 = .ok (.aload_n 0, 1) := by decide +kernel
theorem dX6_pools_59 : decode cX6_pools 59 = .ok (.getfield 61, 3) := by decide +kernel
theorem dX6_pools_62 : decode cX6_pools 62 = .ok (.iload 5, 2) := by decide +kernel
theorem dX6_pools_64 : decode cX6_pools 64 = .ok (.laload, 1) := by decide +kernel
theorem dX6_pools_65 : decode cX6_pools 65 = .ok (.invokestatic 130, 3) := by decide +kernel
theorem dX6_pools_68 : decode cX6_pools 68 = .ok (.ladd, 1) := by decide +kernel
theorem dX6_pools_69 : decode cX6_pools 69 = .ok (.lstore_n 3, 1) := by decide +kernel
theorem dX6_pools_70 : decode cX6_pools 70 = .ok (.lload_n 1, 1) := by decide +kernel
theorem dX6_pools_71 : decode cX6_pools 71 = .ok (.aload_n 0, 1) := by decide +kernel
theorem dX6_pools_72 : decode cX6_pools 72 = .ok (.getfield 61, 3) := by decide +kernel
theorem dX6_pools_75 : decode cX6_pools 75 = .ok (.iload 5, 2) := by decide +kernel
theorem dX6_pools_77 : decode cX6_pools 77 = .ok (.laload, 1) := by decide +kernel
theorem dX6_pools_78 : decode cX6_pools 78 = .ok (.ladd, 1) := by decide +kernel
theorem dX6_pools_79 : decode cX6_pools 79 = .ok (.lstore_n 1, 1) := by decide +kernel
theorem dX6_pools_80 : decode cX6_pools 80 = .ok (.aload_n 0, 1) := by decide +kernel
theorem dX6_pools_81 : decode cX6_pools 81 = .ok (.getfield 64, 3) := by decide +kernel
theorem dX6_pools_84 : decode cX6_pools 84 = .ok (.iload 5, 2) := by decide +kernel
theorem dX6_pools_86 : decode cX6_pools 86 = .ok (.laload, 1) := by decide +kernel
theorem dX6_pools_87 : decode cX6_pools 87 = .ok (.lconst 0, 1) := by decide +kernel
theorem dX6_pools_88 : decode cX6_pools 88 = .ok (.lcmp, 1) := by decide +kernel
theorem dX6_pools_89 : decode cX6_pools 89 = .ok (.ifCond .le 147, 3) := by decide +kernel
theorem dX6_pools_92 : decode cX6_pools 92 = .ok (.lload_n 3, 1) := by decide +kernel
theorem dX6_pools_93 : decode cX6_pools 93 = .ok (.aload_n 0, 1) := by decide +kernel
theorem dX6_pools_94 : decode cX6_pools 94 = .ok (.getfield 64, 3) := by decide +kernel
theorem dX6_pools_97 : decode cX6_pools 97 = .ok (.iload 5, 2) := by decide +kernel
theorem dX6_pools_99 : decode cX6_pools 99 = .ok (.laload, 1) := by decide +kernel
theorem dX6_pools_100 : decode cX6_pools 100 = .ok (.lmul, 1) := by decide +kernel
theorem dX6_pools_101 : decode cX6_pools 101 = .ok (.lload_n 1, 1) := by decide +kernel
theorem dX6_pools_102 : decode cX6_pools 102 = .ok (.ldiv, 1) := by decide +kernel
theorem dX6_pools_103 : decode cX6_pools 103 = .ok (.lstore 6, 2) := by decide +kernel
theorem dX6_pools_105 : decode cX6_pools 105 = .ok (.aload_n 0, 1) := by decide +kernel
theorem dX6_pools_106 : decode cX6_pools 106 = .ok (.getfield 73, 3) := by decide +kernel
theorem dX6_pools_109 : decode cX6_pools 109 = .ok (.aload_n 0, 1) := by decide +kernel
theorem dX6_pools_110 : decode cX6_pools 110 = .ok (.getfield 127, 3) := by decide +kernel
theorem dX6_pools_113 : decode cX6_pools 113 = .ok (.iload 5, 2) := by decide +kernel
theorem dX6_pools_115 : decode cX6_pools 115 = .ok (.iastore, 1) := by decide +kernel
theorem dX6_pools_116 : decode cX6_pools 116 = .ok (.aload_n 0, 1) := by decide +kernel
theorem dX6_pools_117 : decode cX6_pools 117 = .ok (.getfield 76, 3) := by decide +kernel
theorem dX6_pools_120 : decode cX6_pools 120 = .ok (.aload_n 0, 1) := by decide +kernel
theorem dX6_pools_121 : decode cX6_pools 121 = .ok (.getfield 127, 3) := by decide +kernel
theorem dX6_pools_124 : decode cX6_pools 124 = .ok (.iconst (-1), 1) := by decide +kernel
theorem dX6_pools_125 : decode cX6_pools 125 = .ok (.iastore, 1) := by decide +kernel
theorem dX6_pools_126 : decode cX6_pools 126 = .ok (.aload_n 0, 1) := by decide +kernel
theorem dX6_pools_127 : decode cX6_pools 127 = .ok (.getfield 79, 3) := by decide +kernel
theorem dX6_pools_130 : decode cX6_pools 130 = .ok (.aload_n 0, 1) := by decide +kernel
theorem dX6_pools_131 : decode cX6_pools 131 = .ok (.getfield 127, 3) := by decide +kernel
theorem dX6_pools_134 : decode cX6_pools 134 = .ok (.iconst 2, 1) := by decide +kernel
theorem dX6_pools_135 : decode cX6_pools 135 = .ok (.iastore, 1) := by decide +kernel
theorem dX6_pools_136 : decode cX6_pools 136 = .ok (.aload_n 0, 1) := by decide +kernel
theorem dX6_pools_137 : decode cX6_pools 137 = .ok (.getfield 82, 3) := by decide +kernel
theorem dX6_pools_140 : decode cX6_pools 140 = .ok (.aload_n 0, 1) := by decide +kernel
theorem dX6_pools_141 : decode cX6_pools 141 = .ok (.getfield 127, 3) := by decide +kernel
theorem dX6_pools_144 : decode cX6_pools 144 = .ok (.aload_n 0, 1) := by decide +kernel
theorem dX6_pools_145 : decode cX6_pools 145 = .ok (.getfield 64, 3) := by decide +kernel
theorem dX6_pools_148 : decode cX6_pools 148 = .ok (.iload 5, 2) := by decide +kernel
theorem dX6_pools_150 : decode cX6_pools 150 = .ok (.laload, 1) := by decide +kernel
theorem dX6_pools_151 : decode cX6_pools 151 = .ok (.lastore, 1) := by decide +kernel
theorem dX6_pools_152 : decode cX6_pools 152 = .ok (.aload_n 0, 1) := by decide +kernel
theorem dX6_pools_153 : decode cX6_pools 153 = .ok (.getfield 85, 3) := by decide +kernel
theorem dX6_pools_156 : decode cX6_pools 156 = .ok (.aload_n 0, 1) := by decide +kernel
theorem dX6_pools_157 : decode cX6_pools 157 = .ok (.getfield 127, 3) := by decide +kernel
theorem dX6_pools_160 : decode cX6_pools 160 = .ok (.lload 6, 2) := by decide +kernel
theorem dX6_pools_162 : decode cX6_pools 162 = .ok (.lastore, 1) := by decide +kernel
theorem dX6_pools_163 : decode cX6_pools 163 = .ok (.aload_n 0, 1) := by decide +kernel
theorem dX6_pools_164 : decode cX6_pools 164 = .ok (.getfield 88, 3) := by decide +kernel
theorem dX6_pools_167 : decode cX6_pools 167 = .ok (.aload_n 0, 1) := by decide +kernel
theorem dX6_pools_168 : decode cX6_pools 168 = .ok (.getfield 127, 3) := by decide +kernel
theorem dX6_pools_171 : decode cX6_pools 171 = .ok (.aload_n 0, 1) := by decide +kernel
theorem dX6_pools_172 : decode cX6_pools 172 = .ok (.getfield 58, 3) := by decide +kernel
theorem dX6_pools_175 : decode cX6_pools 175 = .ok (.iload 5, 2) := by decide +kernel
theorem dX6_pools_177 : decode cX6_pools 177 = .ok (.laload, 1) := by decide +kernel
theorem dX6_pools_178 : decode cX6_pools 178 = .ok (.aload_n 0, 1) := by decide +kernel
theorem dX6_pools_179 : decode cX6_pools 179 = .ok (.getfield 55, 3) := by decide +kernel
theorem dX6_pools_182 : decode cX6_pools 182 = .ok (.iload 5, 2) := by decide +kernel
theorem dX6_pools_184 : decode cX6_pools 184 = .ok (.laload, 1) := by decide +kernel
theorem dX6_pools_185 : decode cX6_pools 185 = .ok (.aload_n 0, 1) := by decide +kernel
theorem dX6_pools_186 : decode cX6_pools 186 = .ok (.getfield 55, 3) := by decide +kernel
theorem dX6_pools_189 : decode cX6_pools 189 = .ok (.iload 5, 2) := by decide +kernel
theorem dX6_pools_191 : decode cX6_pools 191 = .ok (.laload, 1) := by decide +kernel
theorem dX6_pools_192 : decode cX6_pools 192 = .ok (.aload_n 0, 1) := by decide +kernel
theorem dX6_pools_193 : decode cX6_pools 193 = .ok (.getfield 64, 3) := by decide +kernel
theorem dX6_pools_196 : decode cX6_pools 196 = .ok (.iload 5, 2) := by decide +kernel
theorem dX6_pools_198 : decode cX6_pools 198 = .ok (.laload, 1) := by decide +kernel
theorem dX6_pools_199 : decode cX6_pools 199 = .ok (.lsub, 1) := by decide +kernel
theorem dX6_pools_200 : decode cX6_pools 200 = .ok (.aload_n 0, 1) := by decide +kernel
theorem dX6_pools_201 : decode cX6_pools 201 = .ok (.getfield 64, 3) := by decide +kernel
theorem dX6_pools_204 : decode cX6_pools 204 = .ok (.iload 5, 2) := by decide +kernel
theorem dX6_pools_206 : decode cX6_pools 206 = .ok (.laload, 1) := by decide +kernel
theorem dX6_pools_207 : decode cX6_pools 207 = .ok (.invokestatic 130, 3) := by decide +kernel
theorem dX6_pools_210 : decode cX6_pools 210 = .ok (.lastore, 1) := by decide +kernel
theorem dX6_pools_211 : decode cX6_pools 211 = .ok (.aload_n 0, 1) := by decide +kernel
theorem dX6_pools_212 : decode cX6_pools 212 = .ok (.dup, 1) := by decide +kernel
theorem dX6_pools_213 : decode cX6_pools 213 = .ok (.getfield 127, 3) := by decide +kernel
theorem dX6_pools_216 : decode cX6_pools 216 = .ok (.iconst 1, 1) := by decide +kernel
theorem dX6_pools_217 : decode cX6_pools 217 = .ok (.iadd, 1) := by decide +kernel
theorem dX6_pools_218 : decode cX6_pools 218 = .ok (.putfield 127, 3) := by decide +kernel
theorem dX6_pools_221 : decode cX6_pools 221 = .ok (.lload_n 3, 1) := by decide +kernel
theorem dX6_pools_222 : decode cX6_pools 222 = .ok (.lload 6, 2) := by decide +kernel
theorem dX6_pools_224 : decode cX6_pools 224 = .ok (.lsub, 1) := by decide +kernel
theorem dX6_pools_225 : decode cX6_pools 225 = .ok (.lstore_n 3, 1) := by decide +kernel
theorem dX6_pools_226 : decode cX6_pools 226 = .ok (.lload_n 1, 1) := by decide +kernel
theorem dX6_pools_227 : decode cX6_pools 227 = .ok (.aload_n 0, 1) := by decide +kernel
theorem dX6_pools_228 : decode cX6_pools 228 = .ok (.getfield 64, 3) := by decide +kernel
theorem dX6_pools_231 : decode cX6_pools 231 = .ok (.iload 5, 2) := by decide +kernel
theorem dX6_pools_233 : decode cX6_pools 233 = .ok (.laload, 1) := by decide +kernel
theorem dX6_pools_234 : decode cX6_pools 234 = .ok (.lsub, 1) := by decide +kernel
theorem dX6_pools_235 : decode cX6_pools 235 = .ok (.lstore_n 1, 1) := by decide +kernel
theorem dX6_pools_236 : decode cX6_pools 236 = .ok (.aload_n 0, 1) := by decide +kernel
theorem dX6_pools_237 : decode cX6_pools 237 = .ok (.getfield 67, 3) := by decide +kernel
theorem dX6_pools_240 : decode cX6_pools 240 = .ok (.iload 5, 2) := by decide +kernel
theorem dX6_pools_242 : decode cX6_pools 242 = .ok (.lload_n 1, 1) := by decide +kernel
theorem dX6_pools_243 : decode cX6_pools 243 = .ok (.lastore, 1) := by decide +kernel
theorem dX6_pools_244 : decode cX6_pools 244 = .ok (.aload_n 0, 1) := by decide +kernel
theorem dX6_pools_245 : decode cX6_pools 245 = .ok (.getfield 70, 3) := by decide +kernel
theorem dX6_pools_248 : decode cX6_pools 248 = .ok (.iload 5, 2) := by decide +kernel
theorem dX6_pools_250 : decode cX6_pools 250 = .ok (.lload_n 3, 1) := by decide +kernel
theorem dX6_pools_251 : decode cX6_pools 251 = .ok (.lastore, 1) := by decide +kernel
theorem dX6_pools_252 : decode cX6_pools 252 = .ok (.iinc 5 1, 3) := by decide +kernel
theorem dX6_pools_255 : decode cX6_pools 255 = .ok (.goto (-248), 3) := by decide +kernel
theorem dX6_pools_258 : decode cX6_pools 258 = .ok (.return_, 1) := by decide +kernel
set_option maxRecDepth 20000 in
theorem ggX6_reckons_X6_laysDays : GoodIn wsX6_reckons wsX6_laysDays := goodIn_r _ [9, 2, 10, 11, 12, 13, 3, 14, 15, 16, 17, 18, 19, 20, 21, 22, 23, 24, 25, 8, 26, 27, 28, 29, 49, 50, 51, 52, 53, 54, 55, 56, 57, 58, 59, 60, 61, 62, 63, 64, 65, 66, 67, 68, 69, 70, 71, 72, 73, 74, 75, 76, 77, 78] (by decide +kernel) (by decide +kernel)
set_option maxRecDepth 20000 in
theorem gX6_reckons_X6_laysDays : GoodIn wsX6_reckons (wsV RX6 134 RX6 yX6_laysDays wsX6_laysDays) := goodIn_app (goodIn_of _ (by decide +kernel)) ggX6_reckons_X6_laysDays
set_option maxRecDepth 20000 in
theorem ggX6_reckons_X6_pairs : GoodIn wsX6_reckons wsX6_pairs := goodIn_r _ [33, 22, 21, 34, 1, 35, 36, 37, 38, 15, 14, 39, 17, 16, 40, 41, 8, 42, 49, 50, 51, 52, 53, 54, 55, 56, 57, 58, 59, 60, 61, 62, 63, 64, 65, 66, 67, 68, 69, 70, 71, 72, 73, 74, 75, 76, 77, 78] (by decide +kernel) (by decide +kernel)
set_option maxRecDepth 20000 in
theorem gX6_reckons_X6_pairs : GoodIn wsX6_reckons (wsV RX6 138 RX6 yX6_pairs wsX6_pairs) := goodIn_app (goodIn_of _ (by decide +kernel)) ggX6_reckons_X6_pairs
set_option maxRecDepth 20000 in
theorem ggX6_reckons_X6_pools : GoodIn wsX6_reckons wsX6_pools := goodIn_r _ [46, 2, 21, 15, 14, 22, 34, 1, 35, 36, 37, 38, 39, 17, 16, 47, 48, 40, 41, 8, 42, 49, 50, 51, 52, 53, 54, 55, 56, 57, 58, 59, 60, 61, 62, 63, 64, 65, 66, 67, 68, 69, 70, 71, 72, 73, 74, 75, 76, 77, 78] (by decide +kernel) (by decide +kernel)
set_option maxRecDepth 20000 in
theorem gX6_reckons_X6_pools : GoodIn wsX6_reckons (wsV RX6 142 RX6 yX6_pools wsX6_pools) := goodIn_app (goodIn_of _ (by decide +kernel)) ggX6_reckons_X6_pools
theorem dX6_reckons_0 : decode cX6_reckons 0 = .ok (.aload_n 0, 1) := by decide +kernel
theorem dX6_reckons_1 : decode cX6_reckons 1 = .ok (.iload_n 1, 1) := by decide +kernel
theorem dX6_reckons_2 : decode cX6_reckons 2 = .ok (.invokevirtual 134, 3) := by decide +kernel
theorem dX6_reckons_5 : decode cX6_reckons 5 = .ok (.aload_n 0, 1) := by decide +kernel
theorem dX6_reckons_6 : decode cX6_reckons 6 = .ok (.iconst 0, 1) := by decide +kernel
theorem dX6_reckons_7 : decode cX6_reckons 7 = .ok (.putfield 127, 3) := by decide +kernel
theorem dX6_reckons_10 : decode cX6_reckons 10 = .ok (.iconst 0, 1) := by decide +kernel
theorem dX6_reckons_11 : decode cX6_reckons 11 = .ok (.istore_n 2, 1) := by decide +kernel
theorem dX6_reckons_12 : decode cX6_reckons 12 = .ok (.iload_n 2, 1) := by decide +kernel
theorem dX6_reckons_13 : decode cX6_reckons 13 = .ok (.aload_n 0, 1) := by decide +kernel
theorem dX6_reckons_14 : decode cX6_reckons 14 = .ok (.getfield 124, 3) := by decide +kernel
theorem dX6_reckons_17 : decode cX6_reckons 17 = .ok (.if_icmp .ge 16, 3) := by decide +kernel
theorem dX6_reckons_20 : decode cX6_reckons 20 = .ok (.aload_n 0, 1) := by decide +kernel
theorem dX6_reckons_21 : decode cX6_reckons 21 = .ok (.iload_n 2, 1) := by decide +kernel
theorem dX6_reckons_22 : decode cX6_reckons 22 = .ok (.iload_n 2, 1) := by decide +kernel
theorem dX6_reckons_23 : decode cX6_reckons 23 = .ok (.iconst 0, 1) := by decide +kernel
theorem dX6_reckons_24 : decode cX6_reckons 24 = .ok (.invokevirtual 138, 3) := by decide +kernel
theorem dX6_reckons_27 : decode cX6_reckons 27 = .ok (.iinc 2 1, 3) := by decide +kernel
theorem dX6_reckons_30 : decode cX6_reckons 30 = .ok (.goto (-18), 3) := by decide +kernel
theorem dX6_reckons_33 : decode cX6_reckons 33 = .ok (.iconst 0, 1) := by decide +kernel
theorem dX6_reckons_34 : decode cX6_reckons 34 = .ok (.istore_n 2, 1) := by decide +kernel
theorem dX6_reckons_35 : decode cX6_reckons 35 = .ok (.iload_n 2, 1) := by decide +kernel
theorem dX6_reckons_36 : decode cX6_reckons 36 = .ok (.aload_n 0, 1) := by decide +kernel
theorem dX6_reckons_37 : decode cX6_reckons 37 = .ok (.getfield 124, 3) := by decide +kernel
theorem dX6_reckons_40 : decode cX6_reckons 40 = .ok (.if_icmp .ge 54, 3) := by decide +kernel
theorem dX6_reckons_43 : decode cX6_reckons 43 = .ok (.iload_n 2, 1) := by decide +kernel
theorem dX6_reckons_44 : decode cX6_reckons 44 = .ok (.iconst 1, 1) := by decide +kernel
theorem dX6_reckons_45 : decode cX6_reckons 45 = .ok (.iadd, 1) := by decide +kernel
theorem dX6_reckons_46 : decode cX6_reckons 46 = .ok (.istore_n 3, 1) := by decide +kernel
theorem dX6_reckons_47 : decode cX6_reckons 47 = .ok (.iload_n 3, 1) := by decide +kernel
theorem dX6_reckons_48 : decode cX6_reckons 48 = .ok (.aload_n 0, 1) := by decide +kernel
theorem dX6_reckons_49 : decode cX6_reckons 49 = .ok (.getfield 124, 3) := by decide +kernel
theorem dX6_reckons_52 : decode cX6_reckons 52 = .ok (.if_icmp .ge 36, 3) := by decide +kernel
theorem dX6_reckons_55 : decode cX6_reckons 55 = .ok (.aload_n 0, 1) := by decide +kernel
theorem dX6_reckons_56 : decode cX6_reckons 56 = .ok (.getfield 45, 3) := by decide +kernel
theorem dX6_reckons_59 : decode cX6_reckons 59 = .ok (.iload_n 3, 1) := by decide +kernel
theorem dX6_reckons_60 : decode cX6_reckons 60 = .ok (.iaload, 1) := by decide +kernel
theorem dX6_reckons_61 : decode cX6_reckons 61 = .ok (.aload_n 0, 1) := by decide +kernel
theorem dX6_reckons_62 : decode cX6_reckons 62 = .ok (.getfield 45, 3) := by decide +kernel
theorem dX6_reckons_65 : decode cX6_reckons 65 = .ok (.iload_n 2, 1) := by decide +kernel
theorem dX6_reckons_66 : decode cX6_reckons 66 = .ok (.iaload, 1) := by decide +kernel
theorem dX6_reckons_67 : decode cX6_reckons 67 = .ok (.isub, 1) := by decide +kernel
theorem dX6_reckons_68 : decode cX6_reckons 68 = .ok (.aload_n 0, 1) := by decide +kernel
theorem dX6_reckons_69 : decode cX6_reckons 69 = .ok (.getfield 41, 3) := by decide +kernel
theorem dX6_reckons_72 : decode cX6_reckons 72 = .ok (.if_icmp .gt 10, 3) := by decide +kernel
theorem dX6_reckons_75 : decode cX6_reckons 75 = .ok (.aload_n 0, 1) := by decide +kernel
theorem dX6_reckons_76 : decode cX6_reckons 76 = .ok (.iload_n 2, 1) := by decide +kernel
theorem dX6_reckons_77 : decode cX6_reckons 77 = .ok (.iload_n 3, 1) := by decide +kernel
theorem dX6_reckons_78 : decode cX6_reckons 78 = .ok (.iconst 1, 1) := by decide +kernel
theorem dX6_reckons_79 : decode cX6_reckons 79 = .ok (.invokevirtual 138, 3) := by decide +kernel
theorem dX6_reckons_82 : decode cX6_reckons 82 = .ok (.iinc 3 1, 3) := by decide +kernel
theorem dX6_reckons_85 : decode cX6_reckons 85 = .ok (.goto (-38), 3) := by decide +kernel
theorem dX6_reckons_88 : decode cX6_reckons 88 = .ok (.iinc 2 1, 3) := by decide +kernel
theorem dX6_reckons_91 : decode cX6_reckons 91 = .ok (.goto (-56), 3) := by decide +kernel
theorem dX6_reckons_94 : decode cX6_reckons 94 = .ok (.aload_n 0, 1) := by decide +kernel
theorem dX6_reckons_95 : decode cX6_reckons 95 = .ok (.invokevirtual 142, 3) := by decide +kernel
theorem dX6_reckons_98 : decode cX6_reckons 98 = .ok (.return_, 1) := by decide +kernel
theorem dX6_trades_0 : decode cX6_trades 0 = .ok (.aload_n 0, 1) := by decide +kernel
theorem dX6_trades_1 : decode cX6_trades 1 = .ok (.iconst 0, 1) := by decide +kernel
theorem dX6_trades_2 : decode cX6_trades 2 = .ok (.putfield 91, 3) := by decide +kernel
theorem dX6_trades_5 : decode cX6_trades 5 = .ok (.aload_n 0, 1) := by decide +kernel
theorem dX6_trades_6 : decode cX6_trades 6 = .ok (.getfield 98, 3) := by decide +kernel
theorem dX6_trades_9 : decode cX6_trades 9 = .ok (.ireturn, 1) := by decide +kernel
set_option maxRecDepth 20000 in
theorem ggX6_asks_X6_isShare : GoodIn wsX6_asks wsX6_isShare := goodIn_r _ [5, 6, 7, 4, 8] (by decide +kernel) (by decide +kernel)
set_option maxRecDepth 20000 in
theorem gX6_asks_X6_isShare : GoodIn wsX6_asks (va_wsS RX6 109 yX6_isShare wsX6_isShare) := goodIn_app (goodIn_of _ (by decide +kernel)) ggX6_asks_X6_isShare
set_option maxRecDepth 20000 in
theorem ggX6_asks_X6_isDay : GoodIn wsX6_asks wsX6_isDay := goodIn_r _ [11, 6, 7, 4, 8] (by decide +kernel) (by decide +kernel)
set_option maxRecDepth 20000 in
theorem gX6_asks_X6_isDay : GoodIn wsX6_asks (va_wsS RX6 113 yX6_isDay wsX6_isDay) := goodIn_app (goodIn_of _ (by decide +kernel)) ggX6_asks_X6_isDay
theorem dX6_asks_0 : decode cX6_asks 0 = .ok (.aload_n 0, 1) := by decide +kernel
theorem dX6_asks_1 : decode cX6_asks 1 = .ok (.iload_n 1, 1) := by decide +kernel
theorem dX6_asks_2 : decode cX6_asks 2 = .ok (.invokestatic 109, 3) := by decide +kernel
theorem dX6_asks_5 : decode cX6_asks 5 = .ok (.ifCond .eq 14, 3) := by decide +kernel
theorem dX6_asks_8 : decode cX6_asks 8 = .ok (.iload_n 2, 1) := by decide +kernel
theorem dX6_asks_9 : decode cX6_asks 9 = .ok (.invokestatic 113, 3) := by decide +kernel
theorem dX6_asks_12 : decode cX6_asks 12 = .ok (.ifCond .eq 7, 3) := by decide +kernel
theorem dX6_asks_15 : decode cX6_asks 15 = .ok (.iconst 0, 1) := by decide +kernel
theorem dX6_asks_16 : decode cX6_asks 16 = .ok (.goto 4, 3) := by decide +kernel
theorem dX6_asks_19 : decode cX6_asks 19 = .ok (.iconst 1, 1) := by decide +kernel
theorem dX6_asks_20 : decode cX6_asks 20 = .ok (.putfield 91, 3) := by decide +kernel
theorem dX6_asks_23 : decode cX6_asks 23 = .ok (.aload_n 0, 1) := by decide +kernel
theorem dX6_asks_24 : decode cX6_asks 24 = .ok (.getfield 91, 3) := by decide +kernel
theorem dX6_asks_27 : decode cX6_asks 27 = .ok (.ifCond .ne 7, 3) := by decide +kernel
theorem dX6_asks_30 : decode cX6_asks 30 = .ok (.iconst 1, 1) := by decide +kernel
theorem dX6_asks_31 : decode cX6_asks 31 = .ok (.goto 4, 3) := by decide +kernel
theorem dX6_asks_34 : decode cX6_asks 34 = .ok (.iconst 0, 1) := by decide +kernel
theorem dX6_asks_35 : decode cX6_asks 35 = .ok (.ireturn, 1) := by decide +kernel
set_option maxRecDepth 20000 in
theorem ggX6_holding_X6_asks : GoodIn wsX6_holding wsX6_asks := goodIn_r _ [5, 6, 7, 8, 4, 9, 10, 11, 12, 13, 14, 15, 33, 34, 35, 36, 37, 38, 39, 40, 41, 42, 43, 44, 45, 46, 47, 48, 49, 50, 51, 52, 53, 54, 55, 56, 57, 58, 59, 60, 61, 62] (by decide +kernel) (by decide +kernel)
set_option maxRecDepth 20000 in
theorem gX6_holding_X6_asks : GoodIn wsX6_holding (wsV RX6 145 RX6 yX6_asks wsX6_asks) := goodIn_app (goodIn_of _ (by decide +kernel)) ggX6_holding_X6_asks
set_option maxRecDepth 20000 in
theorem ggX6_holding_X6_held : GoodIn wsX6_holding wsX6_held := goodIn_r _ [19, 20, 21, 22, 23, 24, 25, 26, 27, 28, 4, 29, 30, 31, 32, 33, 34, 35, 36, 37, 38, 39, 40, 41, 42, 43, 44, 45, 46, 47, 48, 49, 50, 51, 52, 53, 54, 55, 56, 57, 58, 59, 60, 61, 62] (by decide +kernel) (by decide +kernel)
set_option maxRecDepth 20000 in
theorem gX6_holding_X6_held : GoodIn wsX6_holding (wsV RX6 105 RX6 yX6_held wsX6_held) := goodIn_app (goodIn_of _ (by decide +kernel)) ggX6_holding_X6_held
set_option maxRecDepth 20000 in
theorem ggX6_holding_X6_later : GoodIn wsX6_holding wsX6_later := goodIn_r _ [29, 30, 31, 32, 33, 34, 35, 36, 37, 38, 39, 40, 41, 42, 43, 44, 45, 46, 47, 48, 49, 50, 51, 52, 53, 54, 55, 56, 57, 58, 59, 60, 61, 62] (by decide +kernel) (by decide +kernel)
set_option maxRecDepth 20000 in
theorem gX6_holding_X6_later : GoodIn wsX6_holding (wsV RX6 101 RX6 yX6_later wsX6_later) := goodIn_app (goodIn_of _ (by decide +kernel)) ggX6_holding_X6_later
theorem dX6_holding_0 : decode cX6_holding 0 = .ok (.aload_n 0, 1) := by decide +kernel
theorem dX6_holding_1 : decode cX6_holding 1 = .ok (.iload_n 1, 1) := by decide +kernel
theorem dX6_holding_2 : decode cX6_holding 2 = .ok (.iload_n 2, 1) := by decide +kernel
theorem dX6_holding_3 : decode cX6_holding 3 = .ok (.invokevirtual 145, 3) := by decide +kernel
theorem dX6_holding_6 : decode cX6_holding 6 = .ok (.ifCond .eq 21, 3) := by decide +kernel
theorem dX6_holding_9 : decode cX6_holding 9 = .ok (.aload_n 0, 1) := by decide +kernel
theorem dX6_holding_10 : decode cX6_holding 10 = .ok (.iload_n 1, 1) := by decide +kernel
theorem dX6_holding_11 : decode cX6_holding 11 = .ok (.iload_n 2, 1) := by decide +kernel
theorem dX6_holding_12 : decode cX6_holding 12 = .ok (.invokevirtual 105, 3) := by decide +kernel
theorem dX6_holding_15 : decode cX6_holding 15 = .ok (.aload_n 0, 1) := by decide +kernel
theorem dX6_holding_16 : decode cX6_holding 16 = .ok (.iload_n 1, 1) := by decide +kernel
theorem dX6_holding_17 : decode cX6_holding 17 = .ok (.iload_n 2, 1) := by decide +kernel
theorem dX6_holding_18 : decode cX6_holding 18 = .ok (.invokevirtual 101, 3) := by decide +kernel
theorem dX6_holding_21 : decode cX6_holding 21 = .ok (.i2l, 1) := by decide +kernel
theorem dX6_holding_22 : decode cX6_holding 22 = .ok (.ldiv, 1) := by decide +kernel
theorem dX6_holding_23 : decode cX6_holding 23 = .ok (.l2i, 1) := by decide +kernel
theorem dX6_holding_24 : decode cX6_holding 24 = .ok (.goto 4, 3) := by decide +kernel
theorem dX6_holding_27 : decode cX6_holding 27 = .ok (.iconst 0, 1) := by decide +kernel
theorem dX6_holding_28 : decode cX6_holding 28 = .ok (.ireturn, 1) := by decide +kernel
theorem dX6_placeOf_0 : decode cX6_placeOf 0 = .ok (.iconst (-1), 1) := by decide +kernel
theorem dX6_placeOf_1 : decode cX6_placeOf 1 = .ok (.istore_n 2, 1) := by decide +kernel
theorem dX6_placeOf_2 : decode cX6_placeOf 2 = .ok (.iconst 0, 1) := by decide +kernel
theorem dX6_placeOf_3 : decode cX6_placeOf 3 = .ok (.istore_n 3, 1) := by decide +kernel
theorem dX6_placeOf_4 : decode cX6_placeOf 4 = .ok (.iload_n 3, 1) := by decide +kernel
theorem dX6_placeOf_5 : decode cX6_placeOf 5 = .ok (.aload_n 0, 1) := by decide +kernel
theorem dX6_placeOf_6 : decode cX6_placeOf 6 = .ok (.getfield 124, 3) := by decide +kernel
theorem dX6_placeOf_9 : decode cX6_placeOf 9 = .ok (.if_icmp .ge 25, 3) := by decide +kernel
theorem dX6_placeOf_12 : decode cX6_placeOf 12 = .ok (.aload_n 0, 1) := by decide +kernel
theorem dX6_placeOf_13 : decode cX6_placeOf 13 = .ok (.getfield 45, 3) := by decide +kernel
theorem dX6_placeOf_16 : decode cX6_placeOf 16 = .ok (.iload_n 3, 1) := by decide +kernel
theorem dX6_placeOf_17 : decode cX6_placeOf 17 = .ok (.iaload, 1) := by decide +kernel
theorem dX6_placeOf_18 : decode cX6_placeOf 18 = .ok (.iload_n 1, 1) := by decide +kernel
theorem dX6_placeOf_19 : decode cX6_placeOf 19 = .ok (.if_icmp .gt 7, 3) := by decide +kernel
theorem dX6_placeOf_22 : decode cX6_placeOf 22 = .ok (.iload_n 3, 1) := by decide +kernel
theorem dX6_placeOf_23 : decode cX6_placeOf 23 = .ok (.goto 4, 3) := by decide +kernel
theorem dX6_placeOf_26 : decode cX6_placeOf 26 = .ok (.iload_n 2, 1) := by decide +kernel
theorem dX6_placeOf_27 : decode cX6_placeOf 27 = .ok (.istore_n 2, 1) := by decide +kernel
theorem dX6_placeOf_28 : decode cX6_placeOf 28 = .ok (.iinc 3 1, 3) := by decide +kernel
theorem dX6_placeOf_31 : decode cX6_placeOf 31 = .ok (.goto (-27), 3) := by decide +kernel
theorem dX6_placeOf_34 : decode cX6_placeOf 34 = .ok (.iload_n 2, 1) := by decide +kernel
theorem dX6_placeOf_35 : decode cX6_placeOf 35 = .ok (.ireturn, 1) := by decide +kernel
set_option maxRecDepth 20000 in
theorem ggX6_poolUnits_X6_asks : GoodIn wsX6_poolUnits wsX6_asks := goodIn_r _ [6, 7, 8, 9, 5, 10, 11, 12, 13, 14, 15, 16, 71, 72, 73, 74, 75, 76, 77, 78, 79, 80, 81, 82, 83, 84, 85, 86, 87, 88, 89, 90, 91, 92, 93, 94, 95, 96, 97, 98, 99, 100] (by decide +kernel) (by decide +kernel)
set_option maxRecDepth 20000 in
theorem gX6_poolUnits_X6_asks : GoodIn wsX6_poolUnits (wsV RX6 145 RX6 yX6_asks wsX6_asks) := goodIn_app (goodIn_of _ (by decide +kernel)) ggX6_poolUnits_X6_asks
set_option maxRecDepth 20000 in
theorem ggX6_poolUnits_X6_reckons : GoodIn wsX6_poolUnits wsX6_reckons := goodIn_r _ [20, 21, 22, 23, 24, 25, 26, 27, 5, 28, 29, 30, 31, 32, 33, 34, 35, 36, 37, 38, 39, 40, 41, 42, 43, 44, 45, 46, 47, 48, 49, 50, 51, 52, 53, 54, 55, 56, 57, 58, 59, 60, 61, 62, 63, 64, 65, 1, 66, 71, 72, 73, 74, 75, 76, 77, 78, 79, 80, 81, 82, 83, 84, 85, 86, 87, 88, 89, 90, 91, 92, 93, 94, 95, 96, 97, 98, 99, 100] (by decide +kernel) (by decide +kernel)
set_option maxRecDepth 20000 in
theorem gX6_poolUnits_X6_reckons : GoodIn wsX6_poolUnits (wsV RX6 149 RX6 yX6_reckons wsX6_reckons) := goodIn_app (goodIn_of _ (by decide +kernel)) ggX6_poolUnits_X6_reckons
set_option maxRecDepth 20000 in
theorem ggX6_poolUnits_X6_placeOf : GoodIn wsX6_poolUnits wsX6_placeOf := goodIn_r _ [70, 22, 23, 71, 72, 73, 74, 75, 76, 77, 78, 79, 80, 81, 82, 83, 84, 85, 86, 87, 88, 89, 90, 91, 92, 93, 94, 95, 96, 97, 98, 99, 100] (by decide +kernel) (by decide +kernel)
set_option maxRecDepth 20000 in
theorem gX6_poolUnits_X6_placeOf : GoodIn wsX6_poolUnits (wsV RX6 152 RX6 yX6_placeOf wsX6_placeOf) := goodIn_app (goodIn_of _ (by decide +kernel)) ggX6_poolUnits_X6_placeOf
theorem dX6_poolUnits_0 : decode cX6_poolUnits 0 = .ok (.aload_n 0, 1) := by decide +kernel
theorem dX6_poolUnits_1 : decode cX6_poolUnits 1 = .ok (.iload_n 1, 1) := by decide +kernel
theorem dX6_poolUnits_2 : decode cX6_poolUnits 2 = .ok (.iload_n 2, 1) := by decide +kernel
theorem dX6_poolUnits_3 : decode cX6_poolUnits 3 = .ok (.invokevirtual 145, 3) := by decide +kernel
theorem dX6_poolUnits_6 : decode cX6_poolUnits 6 = .ok (.ifCond .ne 5, 3) := by decide +kernel
theorem dX6_poolUnits_9 : decode cX6_poolUnits 9 = .ok (.iconst 0, 1) := by decide +kernel
theorem dX6_poolUnits_10 : decode cX6_poolUnits 10 = .ok (.ireturn, 1) := by decide +kernel
theorem dX6_poolUnits_11 : decode cX6_poolUnits 11 = .ok (.aload_n 0, 1) := by decide +kernel
theorem dX6_poolUnits_12 : decode cX6_poolUnits 12 = .ok (.iload_n 1, 1) := by decide +kernel
theorem dX6_poolUnits_13 : decode cX6_poolUnits 13 = .ok (.invokevirtual 149, 3) := by decide +kernel
theorem dX6_poolUnits_16 : decode cX6_poolUnits 16 = .ok (.aload_n 0, 1) := by decide +kernel
theorem dX6_poolUnits_17 : decode cX6_poolUnits 17 = .ok (.iload_n 2, 1) := by decide +kernel
theorem dX6_poolUnits_18 : decode cX6_poolUnits 18 = .ok (.invokevirtual 152, 3) := by decide +kernel
theorem dX6_poolUnits_21 : decode cX6_poolUnits 21 = .ok (.istore_n 3, 1) := by decide +kernel
theorem dX6_poolUnits_22 : decode cX6_poolUnits 22 = .ok (.iload_n 3, 1) := by decide +kernel
theorem dX6_poolUnits_23 : decode cX6_poolUnits 23 = .ok (.ifCond .ge 7, 3) := by decide +kernel
theorem dX6_poolUnits_26 : decode cX6_poolUnits 26 = .ok (.iconst 0, 1) := by decide +kernel
theorem dX6_poolUnits_27 : decode cX6_poolUnits 27 = .ok (.goto 10, 3) := by decide +kernel
theorem dX6_poolUnits_30 : decode cX6_poolUnits 30 = .ok (.aload_n 0, 1) := by decide +kernel
theorem dX6_poolUnits_31 : decode cX6_poolUnits 31 = .ok (.getfield 67, 3) := by decide +kernel
theorem dX6_poolUnits_34 : decode cX6_poolUnits 34 = .ok (.iload_n 3, 1) := by decide +kernel
theorem dX6_poolUnits_35 : decode cX6_poolUnits 35 = .ok (.laload, 1) := by decide +kernel
theorem dX6_poolUnits_36 : decode cX6_poolUnits 36 = .ok (.l2i, 1) := by decide +kernel
theorem dX6_poolUnits_37 : decode cX6_poolUnits 37 = .ok (.ireturn, 1) := by decide +kernel
set_option maxRecDepth 20000 in
theorem ggX6_poolCost_X6_asks : GoodIn wsX6_poolCost wsX6_asks := goodIn_r _ [6, 7, 8, 9, 5, 10, 11, 12, 13, 14, 15, 16, 71, 72, 73, 74, 75, 76, 77, 78, 79, 80, 81, 82, 83, 84, 85, 86, 87, 88, 89, 90, 91, 92, 93, 94, 95, 96, 97, 98, 99, 100] (by decide +kernel) (by decide +kernel)
set_option maxRecDepth 20000 in
theorem gX6_poolCost_X6_asks : GoodIn wsX6_poolCost (wsV RX6 145 RX6 yX6_asks wsX6_asks) := goodIn_app (goodIn_of _ (by decide +kernel)) ggX6_poolCost_X6_asks
set_option maxRecDepth 20000 in
theorem ggX6_poolCost_X6_reckons : GoodIn wsX6_poolCost wsX6_reckons := goodIn_r _ [20, 21, 22, 23, 24, 25, 26, 27, 5, 28, 29, 30, 31, 32, 33, 34, 35, 36, 37, 38, 39, 40, 41, 42, 43, 44, 45, 46, 47, 48, 49, 50, 51, 52, 53, 54, 55, 56, 57, 58, 59, 60, 61, 62, 63, 64, 65, 66, 1, 71, 72, 73, 74, 75, 76, 77, 78, 79, 80, 81, 82, 83, 84, 85, 86, 87, 88, 89, 90, 91, 92, 93, 94, 95, 96, 97, 98, 99, 100] (by decide +kernel) (by decide +kernel)
set_option maxRecDepth 20000 in
theorem gX6_poolCost_X6_reckons : GoodIn wsX6_poolCost (wsV RX6 149 RX6 yX6_reckons wsX6_reckons) := goodIn_app (goodIn_of _ (by decide +kernel)) ggX6_poolCost_X6_reckons
set_option maxRecDepth 20000 in
theorem ggX6_poolCost_X6_placeOf : GoodIn wsX6_poolCost wsX6_placeOf := goodIn_r _ [70, 22, 23, 71, 72, 73, 74, 75, 76, 77, 78, 79, 80, 81, 82, 83, 84, 85, 86, 87, 88, 89, 90, 91, 92, 93, 94, 95, 96, 97, 98, 99, 100] (by decide +kernel) (by decide +kernel)
set_option maxRecDepth 20000 in
theorem gX6_poolCost_X6_placeOf : GoodIn wsX6_poolCost (wsV RX6 152 RX6 yX6_placeOf wsX6_placeOf) := goodIn_app (goodIn_of _ (by decide +kernel)) ggX6_poolCost_X6_placeOf
theorem dX6_poolCost_0 : decode cX6_poolCost 0 = .ok (.aload_n 0, 1) := by decide +kernel
theorem dX6_poolCost_1 : decode cX6_poolCost 1 = .ok (.iload_n 1, 1) := by decide +kernel
theorem dX6_poolCost_2 : decode cX6_poolCost 2 = .ok (.iload_n 2, 1) := by decide +kernel
theorem dX6_poolCost_3 : decode cX6_poolCost 3 = .ok (.invokevirtual 145, 3) := by decide +kernel
theorem dX6_poolCost_6 : decode cX6_poolCost 6 = .ok (.ifCond .ne 5, 3) := by decide +kernel
theorem dX6_poolCost_9 : decode cX6_poolCost 9 = .ok (.iconst 0, 1) := by decide +kernel
theorem dX6_poolCost_10 : decode cX6_poolCost 10 = .ok (.ireturn, 1) := by decide +kernel
theorem dX6_poolCost_11 : decode cX6_poolCost 11 = .ok (.aload_n 0, 1) := by decide +kernel
theorem dX6_poolCost_12 : decode cX6_poolCost 12 = .ok (.iload_n 1, 1) := by decide +kernel
theorem dX6_poolCost_13 : decode cX6_poolCost 13 = .ok (.invokevirtual 149, 3) := by decide +kernel
theorem dX6_poolCost_16 : decode cX6_poolCost 16 = .ok (.aload_n 0, 1) := by decide +kernel
theorem dX6_poolCost_17 : decode cX6_poolCost 17 = .ok (.iload_n 2, 1) := by decide +kernel
theorem dX6_poolCost_18 : decode cX6_poolCost 18 = .ok (.invokevirtual 152, 3) := by decide +kernel
theorem dX6_poolCost_21 : decode cX6_poolCost 21 = .ok (.istore_n 3, 1) := by decide +kernel
theorem dX6_poolCost_22 : decode cX6_poolCost 22 = .ok (.iload_n 3, 1) := by decide +kernel
theorem dX6_poolCost_23 : decode cX6_poolCost 23 = .ok (.ifCond .ge 7, 3) := by decide +kernel
theorem dX6_poolCost_26 : decode cX6_poolCost 26 = .ok (.iconst 0, 1) := by decide +kernel
theorem dX6_poolCost_27 : decode cX6_poolCost 27 = .ok (.goto 10, 3) := by decide +kernel
theorem dX6_poolCost_30 : decode cX6_poolCost 30 = .ok (.aload_n 0, 1) := by decide +kernel
theorem dX6_poolCost_31 : decode cX6_poolCost 31 = .ok (.getfield 70, 3) := by decide +kernel
theorem dX6_poolCost_34 : decode cX6_poolCost 34 = .ok (.iload_n 3, 1) := by decide +kernel
theorem dX6_poolCost_35 : decode cX6_poolCost 35 = .ok (.laload, 1) := by decide +kernel
theorem dX6_poolCost_36 : decode cX6_poolCost 36 = .ok (.l2i, 1) := by decide +kernel
theorem dX6_poolCost_37 : decode cX6_poolCost 37 = .ok (.ireturn, 1) := by decide +kernel
set_option maxRecDepth 20000 in
theorem ggX6_costIn_X6_isShare : GoodIn wsX6_costIn wsX6_isShare := goodIn_r _ [10, 11, 12, 9, 13] (by decide +kernel) (by decide +kernel)
set_option maxRecDepth 20000 in
theorem gX6_costIn_X6_isShare : GoodIn wsX6_costIn (va_wsS RX6 109 yX6_isShare wsX6_isShare) := goodIn_app (goodIn_of _ (by decide +kernel)) ggX6_costIn_X6_isShare
theorem dX6_costIn_0 : decode cX6_costIn 0 = .ok (.aload_n 0, 1) := by decide +kernel
theorem dX6_costIn_1 : decode cX6_costIn 1 = .ok (.iload_n 1, 1) := by decide +kernel
theorem dX6_costIn_2 : decode cX6_costIn 2 = .ok (.invokestatic 109, 3) := by decide +kernel
theorem dX6_costIn_5 : decode cX6_costIn 5 = .ok (.ifCond .eq 7, 3) := by decide +kernel
theorem dX6_costIn_8 : decode cX6_costIn 8 = .ok (.iconst 0, 1) := by decide +kernel
theorem dX6_costIn_9 : decode cX6_costIn 9 = .ok (.goto 4, 3) := by decide +kernel
theorem dX6_costIn_12 : decode cX6_costIn 12 = .ok (.iconst 1, 1) := by decide +kernel
theorem dX6_costIn_13 : decode cX6_costIn 13 = .ok (.putfield 91, 3) := by decide +kernel
theorem dX6_costIn_16 : decode cX6_costIn 16 = .ok (.iconst 0, 1) := by decide +kernel
theorem dX6_costIn_17 : decode cX6_costIn 17 = .ok (.istore_n 2, 1) := by decide +kernel
theorem dX6_costIn_18 : decode cX6_costIn 18 = .ok (.iconst 0, 1) := by decide +kernel
theorem dX6_costIn_19 : decode cX6_costIn 19 = .ok (.istore_n 3, 1) := by decide +kernel
theorem dX6_costIn_20 : decode cX6_costIn 20 = .ok (.iload_n 3, 1) := by decide +kernel
theorem dX6_costIn_21 : decode cX6_costIn 21 = .ok (.aload_n 0, 1) := by decide +kernel
theorem dX6_costIn_22 : decode cX6_costIn 22 = .ok (.getfield 98, 3) := by decide +kernel
theorem dX6_costIn_25 : decode cX6_costIn 25 = .ok (.if_icmp .ge 57, 3) := by decide +kernel
theorem dX6_costIn_28 : decode cX6_costIn 28 = .ok (.aload_n 0, 1) := by decide +kernel
theorem dX6_costIn_29 : decode cX6_costIn 29 = .ok (.getfield 91, 3) := by decide +kernel
theorem dX6_costIn_32 : decode cX6_costIn 32 = .ok (.ifCond .ne 50, 3) := by decide +kernel
theorem dX6_costIn_35 : decode cX6_costIn 35 = .ok (.iload_n 2, 1) := by decide +kernel
theorem dX6_costIn_36 : decode cX6_costIn 36 = .ok (.aload_n 0, 1) := by decide +kernel
theorem dX6_costIn_37 : decode cX6_costIn 37 = .ok (.getfield 26, 3) := by decide +kernel
theorem dX6_costIn_40 : decode cX6_costIn 40 = .ok (.iload_n 3, 1) := by decide +kernel
theorem dX6_costIn_41 : decode cX6_costIn 41 = .ok (.baload, 1) := by decide +kernel
theorem dX6_costIn_42 : decode cX6_costIn 42 = .ok (.ifCond .ne 31, 3) := by decide +kernel
theorem dX6_costIn_45 : decode cX6_costIn 45 = .ok (.aload_n 0, 1) := by decide +kernel
theorem dX6_costIn_46 : decode cX6_costIn 46 = .ok (.getfield 7, 3) := by decide +kernel
theorem dX6_costIn_49 : decode cX6_costIn 49 = .ok (.iload_n 3, 1) := by decide +kernel
theorem dX6_costIn_50 : decode cX6_costIn 50 = .ok (.iaload, 1) := by decide +kernel
theorem dX6_costIn_51 : decode cX6_costIn 51 = .ok (.iload_n 1, 1) := by decide +kernel
theorem dX6_costIn_52 : decode cX6_costIn 52 = .ok (.if_icmp .ne 21, 3) := by decide +kernel
theorem dX6_costIn_55 : decode cX6_costIn 55 = .ok (.aload_n 0, 1) := by decide +kernel
theorem dX6_costIn_56 : decode cX6_costIn 56 = .ok (.getfield 22, 3) := by decide +kernel
theorem dX6_costIn_59 : decode cX6_costIn 59 = .ok (.iload_n 3, 1) := by decide +kernel
theorem dX6_costIn_60 : decode cX6_costIn 60 = .ok (.baload, 1) := by decide +kernel
theorem dX6_costIn_61 : decode cX6_costIn 61 = .ok (.ifCond .ne 12, 3) := by decide +kernel
theorem dX6_costIn_64 : decode cX6_costIn 64 = .ok (.aload_n 0, 1) := by decide +kernel
theorem dX6_costIn_65 : decode cX6_costIn 65 = .ok (.getfield 19, 3) := by decide +kernel
theorem dX6_costIn_68 : decode cX6_costIn 68 = .ok (.iload_n 3, 1) := by decide +kernel
theorem dX6_costIn_69 : decode cX6_costIn 69 = .ok (.iaload, 1) := by decide +kernel
theorem dX6_costIn_70 : decode cX6_costIn 70 = .ok (.goto 4, 3) := by decide +kernel
theorem dX6_costIn_73 : decode cX6_costIn 73 = .ok (.iconst 0, 1) := by decide +kernel
theorem dX6_costIn_74 : decode cX6_costIn 74 = .ok (.iadd, 1) := by decide +kernel
theorem dX6_costIn_75 : decode cX6_costIn 75 = .ok (.istore_n 2, 1) := by decide +kernel
theorem dX6_costIn_76 : decode cX6_costIn 76 = .ok (.iinc 3 1, 3) := by decide +kernel
theorem dX6_costIn_79 : decode cX6_costIn 79 = .ok (.goto (-59), 3) := by decide +kernel
theorem dX6_costIn_82 : decode cX6_costIn 82 = .ok (.iload_n 2, 1) := by decide +kernel
theorem dX6_costIn_83 : decode cX6_costIn 83 = .ok (.ireturn, 1) := by decide +kernel
set_option maxRecDepth 20000 in
theorem ggX6_costMatched_X6_isShare : GoodIn wsX6_costMatched wsX6_isShare := goodIn_r _ [7, 8, 9, 6, 10] (by decide +kernel) (by decide +kernel)
set_option maxRecDepth 20000 in
theorem gX6_costMatched_X6_isShare : GoodIn wsX6_costMatched (va_wsS RX6 109 yX6_isShare wsX6_isShare) := goodIn_app (goodIn_of _ (by decide +kernel)) ggX6_costMatched_X6_isShare
set_option maxRecDepth 20000 in
theorem ggX6_costMatched_X6_reckons : GoodIn wsX6_costMatched wsX6_reckons := goodIn_r _ [14, 2, 15, 16, 17, 18, 19, 20, 6, 21, 22, 23, 24, 25, 26, 27, 28, 29, 30, 31, 32, 33, 34, 35, 36, 37, 38, 39, 40, 41, 42, 43, 44, 45, 46, 47, 48, 49, 3, 50, 51, 52, 53, 54, 55, 56, 57, 58, 59, 60, 61, 62, 63, 64, 65, 66, 67, 68, 69, 70, 71, 72, 73, 74, 75, 76, 77, 78, 79, 80, 81, 82, 83, 84, 85, 86, 87, 88, 89] (by decide +kernel) (by decide +kernel)
set_option maxRecDepth 20000 in
theorem gX6_costMatched_X6_reckons : GoodIn wsX6_costMatched (wsV RX6 149 RX6 yX6_reckons wsX6_reckons) := goodIn_app (goodIn_of _ (by decide +kernel)) ggX6_costMatched_X6_reckons
theorem dX6_costMatched_0 : decode cX6_costMatched 0 = .ok (.aload_n 0, 1) := by decide +kernel
theorem dX6_costMatched_1 : decode cX6_costMatched 1 = .ok (.iload_n 1, 1) := by decide +kernel
theorem dX6_costMatched_2 : decode cX6_costMatched 2 = .ok (.invokestatic 109, 3) := by decide +kernel
theorem dX6_costMatched_5 : decode cX6_costMatched 5 = .ok (.ifCond .eq 7, 3) := by decide +kernel
theorem dX6_costMatched_8 : decode cX6_costMatched 8 = .ok (.iconst 0, 1) := by decide +kernel
theorem dX6_costMatched_9 : decode cX6_costMatched 9 = .ok (.goto 4, 3) := by decide +kernel
theorem dX6_costMatched_12 : decode cX6_costMatched 12 = .ok (.iconst 1, 1) := by decide +kernel
theorem dX6_costMatched_13 : decode cX6_costMatched 13 = .ok (.putfield 91, 3) := by decide +kernel
theorem dX6_costMatched_16 : decode cX6_costMatched 16 = .ok (.aload_n 0, 1) := by decide +kernel
theorem dX6_costMatched_17 : decode cX6_costMatched 17 = .ok (.getfield 91, 3) := by decide +kernel
theorem dX6_costMatched_20 : decode cX6_costMatched 20 = .ok (.ifCond .le 5, 3) := by decide +kernel
theorem dX6_costMatched_23 : decode cX6_costMatched 23 = .ok (.iconst 0, 1) := by decide +kernel
theorem dX6_costMatched_24 : decode cX6_costMatched 24 = .ok (.ireturn, 1) := by decide +kernel
theorem dX6_costMatched_25 : decode cX6_costMatched 25 = .ok (.aload_n 0, 1) := by decide +kernel
theorem dX6_costMatched_26 : decode cX6_costMatched 26 = .ok (.iload_n 1, 1) := by decide +kernel
theorem dX6_costMatched_27 : decode cX6_costMatched 27 = .ok (.invokevirtual 149, 3) := by decide +kernel
theorem dX6_costMatched_30 : decode cX6_costMatched 30 = .ok (.lconst 0, 1) := by decide +kernel
theorem dX6_costMatched_31 : decode cX6_costMatched 31 = .ok (.lstore_n 2, 1) := by decide +kernel
theorem dX6_costMatched_32 : decode cX6_costMatched 32 = .ok (.iconst 0, 1) := by decide +kernel
theorem dX6_costMatched_33 : decode cX6_costMatched 33 = .ok (.istore 4, 2) := by decide +kernel
theorem dX6_costMatched_35 : decode cX6_costMatched 35 = .ok (.iload 4, 2) := by decide +kernel
theorem dX6_costMatched_37 : decode cX6_costMatched 37 = .ok (.aload_n 0, 1) := by decide +kernel
theorem dX6_costMatched_38 : decode cX6_costMatched 38 = .ok (.getfield 127, 3) := by decide +kernel
theorem dX6_costMatched_41 : decode cX6_costMatched 41 = .ok (.if_icmp .ge 19, 3) := by decide +kernel
theorem dX6_costMatched_44 : decode cX6_costMatched 44 = .ok (.lload_n 2, 1) := by decide +kernel
theorem dX6_costMatched_45 : decode cX6_costMatched 45 = .ok (.aload_n 0, 1) := by decide +kernel
theorem dX6_costMatched_46 : decode cX6_costMatched 46 = .ok (.getfield 85, 3) := by decide +kernel
theorem dX6_costMatched_49 : decode cX6_costMatched 49 = .ok (.iload 4, 2) := by decide +kernel
theorem dX6_costMatched_51 : decode cX6_costMatched 51 = .ok (.laload, 1) := by decide +kernel
theorem dX6_costMatched_52 : decode cX6_costMatched 52 = .ok (.ladd, 1) := by decide +kernel
theorem dX6_costMatched_53 : decode cX6_costMatched 53 = .ok (.lstore_n 2, 1) := by decide +kernel
theorem dX6_costMatched_54 : decode cX6_costMatched 54 = .ok (.iinc 4 1, 3) := by decide +kernel
theorem dX6_costMatched_57 : decode cX6_costMatched 57 = .ok (.goto (-22), 3) := by decide +kernel
theorem dX6_costMatched_60 : decode cX6_costMatched 60 = .ok (.lload_n 2, 1) := by decide +kernel
theorem dX6_costMatched_61 : decode cX6_costMatched 61 = .ok (.l2i, 1) := by decide +kernel
theorem dX6_costMatched_62 : decode cX6_costMatched 62 = .ok (.ireturn, 1) := by decide +kernel
set_option maxRecDepth 20000 in
theorem ggX6_matches_X6_isShare : GoodIn wsX6_matches wsX6_isShare := goodIn_r _ [6, 7, 8, 5, 9] (by decide +kernel) (by decide +kernel)
set_option maxRecDepth 20000 in
theorem gX6_matches_X6_isShare : GoodIn wsX6_matches (va_wsS RX6 109 yX6_isShare wsX6_isShare) := goodIn_app (goodIn_of _ (by decide +kernel)) ggX6_matches_X6_isShare
set_option maxRecDepth 20000 in
theorem ggX6_matches_X6_reckons : GoodIn wsX6_matches wsX6_reckons := goodIn_r _ [13, 2, 14, 15, 16, 17, 18, 19, 5, 20, 21, 22, 23, 24, 25, 26, 27, 28, 29, 30, 31, 32, 33, 34, 35, 36, 37, 38, 39, 40, 41, 42, 43, 44, 45, 46, 47, 48, 49, 50, 51, 52, 53, 54, 55, 56, 57, 58, 59, 60, 61, 62, 63, 64, 65, 66, 67, 68, 69, 70, 71, 72, 73, 74, 75, 76, 77, 78, 79, 80, 81, 82, 83, 84, 85, 86, 87, 88, 89] (by decide +kernel) (by decide +kernel)
set_option maxRecDepth 20000 in
theorem gX6_matches_X6_reckons : GoodIn wsX6_matches (wsV RX6 149 RX6 yX6_reckons wsX6_reckons) := goodIn_app (goodIn_of _ (by decide +kernel)) ggX6_matches_X6_reckons
theorem dX6_matches_0 : decode cX6_matches 0 = .ok (.aload_n 0, 1) := by decide +kernel
theorem dX6_matches_1 : decode cX6_matches 1 = .ok (.iload_n 1, 1) := by decide +kernel
theorem dX6_matches_2 : decode cX6_matches 2 = .ok (.invokestatic 109, 3) := by decide +kernel
theorem dX6_matches_5 : decode cX6_matches 5 = .ok (.ifCond .eq 7, 3) := by decide +kernel
theorem dX6_matches_8 : decode cX6_matches 8 = .ok (.iconst 0, 1) := by decide +kernel
theorem dX6_matches_9 : decode cX6_matches 9 = .ok (.goto 4, 3) := by decide +kernel
theorem dX6_matches_12 : decode cX6_matches 12 = .ok (.iconst 1, 1) := by decide +kernel
theorem dX6_matches_13 : decode cX6_matches 13 = .ok (.putfield 91, 3) := by decide +kernel
theorem dX6_matches_16 : decode cX6_matches 16 = .ok (.aload_n 0, 1) := by decide +kernel
theorem dX6_matches_17 : decode cX6_matches 17 = .ok (.getfield 91, 3) := by decide +kernel
theorem dX6_matches_20 : decode cX6_matches 20 = .ok (.ifCond .le 5, 3) := by decide +kernel
theorem dX6_matches_23 : decode cX6_matches 23 = .ok (.iconst 0, 1) := by decide +kernel
theorem dX6_matches_24 : decode cX6_matches 24 = .ok (.ireturn, 1) := by decide +kernel
theorem dX6_matches_25 : decode cX6_matches 25 = .ok (.aload_n 0, 1) := by decide +kernel
theorem dX6_matches_26 : decode cX6_matches 26 = .ok (.iload_n 1, 1) := by decide +kernel
theorem dX6_matches_27 : decode cX6_matches 27 = .ok (.invokevirtual 149, 3) := by decide +kernel
theorem dX6_matches_30 : decode cX6_matches 30 = .ok (.aload_n 0, 1) := by decide +kernel
theorem dX6_matches_31 : decode cX6_matches 31 = .ok (.getfield 127, 3) := by decide +kernel
theorem dX6_matches_34 : decode cX6_matches 34 = .ok (.ireturn, 1) := by decide +kernel
theorem dX6_ahead_0 : decode cX6_ahead 0 = .ok (.iconst 0, 1) := by decide +kernel
theorem dX6_ahead_1 : decode cX6_ahead 1 = .ok (.istore_n 2, 1) := by decide +kernel
theorem dX6_ahead_2 : decode cX6_ahead 2 = .ok (.iconst 0, 1) := by decide +kernel
theorem dX6_ahead_3 : decode cX6_ahead 3 = .ok (.istore_n 3, 1) := by decide +kernel
theorem dX6_ahead_4 : decode cX6_ahead 4 = .ok (.iload_n 3, 1) := by decide +kernel
theorem dX6_ahead_5 : decode cX6_ahead 5 = .ok (.aload_n 0, 1) := by decide +kernel
theorem dX6_ahead_6 : decode cX6_ahead 6 = .ok (.getfield 127, 3) := by decide +kernel
theorem dX6_ahead_9 : decode cX6_ahead 9 = .ok (.if_icmp .ge 52, 3) := by decide +kernel
theorem dX6_ahead_12 : decode cX6_ahead 12 = .ok (.iload_n 2, 1) := by decide +kernel
theorem dX6_ahead_13 : decode cX6_ahead 13 = .ok (.aload_n 0, 1) := by decide +kernel
theorem dX6_ahead_14 : decode cX6_ahead 14 = .ok (.getfield 73, 3) := by decide +kernel
theorem dX6_ahead_17 : decode cX6_ahead 17 = .ok (.iload_n 3, 1) := by decide +kernel
theorem dX6_ahead_18 : decode cX6_ahead 18 = .ok (.iaload, 1) := by decide +kernel
theorem dX6_ahead_19 : decode cX6_ahead 19 = .ok (.aload_n 0, 1) := by decide +kernel
theorem dX6_ahead_20 : decode cX6_ahead 20 = .ok (.getfield 73, 3) := by decide +kernel
theorem dX6_ahead_23 : decode cX6_ahead 23 = .ok (.iload_n 1, 1) := by decide +kernel
theorem dX6_ahead_24 : decode cX6_ahead 24 = .ok (.iaload, 1) := by decide +kernel
theorem dX6_ahead_25 : decode cX6_ahead 25 = .ok (.if_icmp .lt 23, 3) := by decide +kernel
theorem dX6_ahead_28 : decode cX6_ahead 28 = .ok (.aload_n 0, 1) := by decide +kernel
theorem dX6_ahead_29 : decode cX6_ahead 29 = .ok (.getfield 73, 3) := by decide +kernel
theorem dX6_ahead_32 : decode cX6_ahead 32 = .ok (.iload_n 3, 1) := by decide +kernel
theorem dX6_ahead_33 : decode cX6_ahead 33 = .ok (.iaload, 1) := by decide +kernel
theorem dX6_ahead_34 : decode cX6_ahead 34 = .ok (.aload_n 0, 1) := by decide +kernel
theorem dX6_ahead_35 : decode cX6_ahead 35 = .ok (.getfield 73, 3) := by decide +kernel
theorem dX6_ahead_38 : decode cX6_ahead 38 = .ok (.iload_n 1, 1) := by decide +kernel
theorem dX6_ahead_39 : decode cX6_ahead 39 = .ok (.iaload, 1) := by decide +kernel
theorem dX6_ahead_40 : decode cX6_ahead 40 = .ok (.if_icmp .ne 12, 3) := by decide +kernel
theorem dX6_ahead_43 : decode cX6_ahead 43 = .ok (.iload_n 3, 1) := by decide +kernel
theorem dX6_ahead_44 : decode cX6_ahead 44 = .ok (.iload_n 1, 1) := by decide +kernel
theorem dX6_ahead_45 : decode cX6_ahead 45 = .ok (.if_icmp .ge 7, 3) := by decide +kernel
theorem dX6_ahead_48 : decode cX6_ahead 48 = .ok (.iconst 1, 1) := by decide +kernel
theorem dX6_ahead_49 : decode cX6_ahead 49 = .ok (.goto 4, 3) := by decide +kernel
theorem dX6_ahead_52 : decode cX6_ahead 52 = .ok (.iconst 0, 1) := by decide +kernel
theorem dX6_ahead_53 : decode cX6_ahead 53 = .ok (.iadd, 1) := by decide +kernel
theorem dX6_ahead_54 : decode cX6_ahead 54 = .ok (.istore_n 2, 1) := by decide +kernel
theorem dX6_ahead_55 : decode cX6_ahead 55 = .ok (.iinc 3 1, 3) := by decide +kernel
theorem dX6_ahead_58 : decode cX6_ahead 58 = .ok (.goto (-54), 3) := by decide +kernel
theorem dX6_ahead_61 : decode cX6_ahead 61 = .ok (.iload_n 2, 1) := by decide +kernel
theorem dX6_ahead_62 : decode cX6_ahead 62 = .ok (.ireturn, 1) := by decide +kernel
set_option maxRecDepth 20000 in
theorem ggX6_found_X6_isShare : GoodIn wsX6_found wsX6_isShare := goodIn_r _ [6, 7, 8, 5, 9] (by decide +kernel) (by decide +kernel)
set_option maxRecDepth 20000 in
theorem gX6_found_X6_isShare : GoodIn wsX6_found (va_wsS RX6 109 yX6_isShare wsX6_isShare) := goodIn_app (goodIn_of _ (by decide +kernel)) ggX6_found_X6_isShare
set_option maxRecDepth 20000 in
theorem ggX6_found_X6_reckons : GoodIn wsX6_found wsX6_reckons := goodIn_r _ [13, 2, 14, 15, 16, 17, 18, 19, 5, 20, 21, 22, 23, 24, 25, 26, 27, 28, 29, 30, 31, 32, 33, 34, 35, 36, 37, 38, 39, 40, 41, 42, 43, 44, 45, 46, 47, 48, 49, 50, 51, 52, 53, 54, 55, 56, 57, 58, 59, 64, 65, 66, 67, 68, 69, 70, 71, 72, 73, 74, 75, 76, 77, 78, 79, 80, 81, 82, 83, 84, 85, 86, 87, 88, 89, 90, 91, 92, 93] (by decide +kernel) (by decide +kernel)
set_option maxRecDepth 20000 in
theorem gX6_found_X6_reckons : GoodIn wsX6_found (wsV RX6 149 RX6 yX6_reckons wsX6_reckons) := goodIn_app (goodIn_of _ (by decide +kernel)) ggX6_found_X6_reckons
set_option maxRecDepth 20000 in
theorem ggX6_found_X6_ahead : GoodIn wsX6_found wsX6_ahead := goodIn_r _ [63, 2, 45, 64, 65, 66, 67, 68, 69, 70, 71, 72, 73, 74, 75, 76, 77, 78, 79, 80, 81, 82, 83, 84, 85, 86, 87, 88, 89, 90, 91, 92, 93] (by decide +kernel) (by decide +kernel)
set_option maxRecDepth 20000 in
theorem gX6_found_X6_ahead : GoodIn wsX6_found (wsV RX6 156 RX6 yX6_ahead wsX6_ahead) := goodIn_app (goodIn_of _ (by decide +kernel)) ggX6_found_X6_ahead
theorem dX6_found_0 : decode cX6_found 0 = .ok (.aload_n 0, 1) := by decide +kernel
theorem dX6_found_1 : decode cX6_found 1 = .ok (.iload_n 1, 1) := by decide +kernel
theorem dX6_found_2 : decode cX6_found 2 = .ok (.invokestatic 109, 3) := by decide +kernel
theorem dX6_found_5 : decode cX6_found 5 = .ok (.ifCond .eq 7, 3) := by decide +kernel
theorem dX6_found_8 : decode cX6_found 8 = .ok (.iconst 0, 1) := by decide +kernel
theorem dX6_found_9 : decode cX6_found 9 = .ok (.goto 4, 3) := by decide +kernel
theorem dX6_found_12 : decode cX6_found 12 = .ok (.iconst 1, 1) := by decide +kernel
theorem dX6_found_13 : decode cX6_found 13 = .ok (.putfield 91, 3) := by decide +kernel
theorem dX6_found_16 : decode cX6_found 16 = .ok (.iconst (-1), 1) := by decide +kernel
theorem dX6_found_17 : decode cX6_found 17 = .ok (.istore_n 3, 1) := by decide +kernel
theorem dX6_found_18 : decode cX6_found 18 = .ok (.aload_n 0, 1) := by decide +kernel
theorem dX6_found_19 : decode cX6_found 19 = .ok (.getfield 91, 3) := by decide +kernel
theorem dX6_found_22 : decode cX6_found 22 = .ok (.ifCond .ne 43, 3) := by decide +kernel
theorem dX6_found_25 : decode cX6_found 25 = .ok (.aload_n 0, 1) := by decide +kernel
theorem dX6_found_26 : decode cX6_found 26 = .ok (.iload_n 1, 1) := by decide +kernel
theorem dX6_found_27 : decode cX6_found 27 = .ok (.invokevirtual 149, 3) := by decide +kernel
theorem dX6_found_30 : decode cX6_found 30 = .ok (.iconst 0, 1) := by decide +kernel
theorem dX6_found_31 : decode cX6_found 31 = .ok (.istore 4, 2) := by decide +kernel
theorem dX6_found_33 : decode cX6_found 33 = .ok (.iload 4, 2) := by decide +kernel
theorem dX6_found_35 : decode cX6_found 35 = .ok (.aload_n 0, 1) := by decide +kernel
theorem dX6_found_36 : decode cX6_found 36 = .ok (.getfield 127, 3) := by decide +kernel
theorem dX6_found_39 : decode cX6_found 39 = .ok (.if_icmp .ge 26, 3) := by decide +kernel
theorem dX6_found_42 : decode cX6_found 42 = .ok (.aload_n 0, 1) := by decide +kernel
theorem dX6_found_43 : decode cX6_found 43 = .ok (.iload 4, 2) := by decide +kernel
theorem dX6_found_45 : decode cX6_found 45 = .ok (.invokevirtual 156, 3) := by decide +kernel
theorem dX6_found_48 : decode cX6_found 48 = .ok (.iload_n 2, 1) := by decide +kernel
theorem dX6_found_49 : decode cX6_found 49 = .ok (.if_icmp .ne 8, 3) := by decide +kernel
theorem dX6_found_52 : decode cX6_found 52 = .ok (.iload 4, 2) := by decide +kernel
theorem dX6_found_54 : decode cX6_found 54 = .ok (.goto 4, 3) := by decide +kernel
theorem dX6_found_57 : decode cX6_found 57 = .ok (.iload_n 3, 1) := by decide +kernel
theorem dX6_found_58 : decode cX6_found 58 = .ok (.istore_n 3, 1) := by decide +kernel
theorem dX6_found_59 : decode cX6_found 59 = .ok (.iinc 4 1, 3) := by decide +kernel
theorem dX6_found_62 : decode cX6_found 62 = .ok (.goto (-29), 3) := by decide +kernel
theorem dX6_found_65 : decode cX6_found 65 = .ok (.aload_n 0, 1) := by decide +kernel
theorem dX6_found_66 : decode cX6_found 66 = .ok (.iload_n 3, 1) := by decide +kernel
theorem dX6_found_67 : decode cX6_found 67 = .ok (.ifCond .ge 7, 3) := by decide +kernel
theorem dX6_found_70 : decode cX6_found 70 = .ok (.iconst 1, 1) := by decide +kernel
theorem dX6_found_71 : decode cX6_found 71 = .ok (.goto 4, 3) := by decide +kernel
theorem dX6_found_74 : decode cX6_found 74 = .ok (.iconst 0, 1) := by decide +kernel
theorem dX6_found_75 : decode cX6_found 75 = .ok (.putfield 91, 3) := by decide +kernel
theorem dX6_found_78 : decode cX6_found 78 = .ok (.iload_n 3, 1) := by decide +kernel
theorem dX6_found_79 : decode cX6_found 79 = .ok (.ireturn, 1) := by decide +kernel
set_option maxRecDepth 20000 in
theorem ggX6_kindOf_X6_found : GoodIn wsX6_kindOf wsX6_found := goodIn_r _ [6, 7, 8, 9, 10, 5, 11, 12, 13, 14, 15, 16, 17, 18, 19, 20, 21, 22, 23, 24, 25, 26, 27, 28, 29, 30, 31, 32, 33, 34, 35, 36, 37, 38, 39, 40, 41, 42, 43, 44, 45, 46, 47, 48, 49, 50, 51, 1, 52, 53, 54, 55, 56, 57, 58, 59, 60, 61, 62, 63, 64, 65, 66, 67, 68, 69, 70, 71, 72, 73, 74, 75, 76, 77, 78, 79, 80, 81, 82, 83, 84, 85, 86, 87, 88, 89, 90, 91, 92, 93, 94, 95, 96, 97] (by decide +kernel) (by decide +kernel)
set_option maxRecDepth 20000 in
theorem gX6_kindOf_X6_found : GoodIn wsX6_kindOf (wsV RX6 159 RX6 yX6_found wsX6_found) := goodIn_app (goodIn_of _ (by decide +kernel)) ggX6_kindOf_X6_found
theorem dX6_kindOf_0 : decode cX6_kindOf 0 = .ok (.aload_n 0, 1) := by decide +kernel
theorem dX6_kindOf_1 : decode cX6_kindOf 1 = .ok (.iload_n 1, 1) := by decide +kernel
theorem dX6_kindOf_2 : decode cX6_kindOf 2 = .ok (.iload_n 2, 1) := by decide +kernel
theorem dX6_kindOf_3 : decode cX6_kindOf 3 = .ok (.invokevirtual 159, 3) := by decide +kernel
theorem dX6_kindOf_6 : decode cX6_kindOf 6 = .ok (.istore_n 3, 1) := by decide +kernel
theorem dX6_kindOf_7 : decode cX6_kindOf 7 = .ok (.iload_n 3, 1) := by decide +kernel
theorem dX6_kindOf_8 : decode cX6_kindOf 8 = .ok (.ifCond .ge 7, 3) := by decide +kernel
theorem dX6_kindOf_11 : decode cX6_kindOf 11 = .ok (.iconst 0, 1) := by decide +kernel
theorem dX6_kindOf_12 : decode cX6_kindOf 12 = .ok (.goto 9, 3) := by decide +kernel
theorem dX6_kindOf_15 : decode cX6_kindOf 15 = .ok (.aload_n 0, 1) := by decide +kernel
theorem dX6_kindOf_16 : decode cX6_kindOf 16 = .ok (.getfield 79, 3) := by decide +kernel
theorem dX6_kindOf_19 : decode cX6_kindOf 19 = .ok (.iload_n 3, 1) := by decide +kernel
theorem dX6_kindOf_20 : decode cX6_kindOf 20 = .ok (.iaload, 1) := by decide +kernel
theorem dX6_kindOf_21 : decode cX6_kindOf 21 = .ok (.ireturn, 1) := by decide +kernel
set_option maxRecDepth 20000 in
theorem ggX6_saleDay_X6_found : GoodIn wsX6_saleDay wsX6_found := goodIn_r _ [7, 8, 9, 10, 11, 6, 12, 13, 14, 15, 16, 17, 18, 19, 20, 1, 21, 22, 23, 24, 25, 26, 27, 28, 29, 30, 31, 32, 33, 34, 35, 36, 37, 38, 39, 40, 41, 42, 43, 44, 45, 46, 47, 48, 49, 2, 50, 51, 52, 53, 54, 55, 56, 57, 58, 59, 60, 61, 62, 63, 64, 65, 66, 67, 68, 69, 70, 71, 72, 73, 74, 75, 76, 77, 78, 79, 80, 81, 82, 83, 84, 85, 86, 87, 88, 89, 90, 91, 92, 93, 94, 95, 96, 97] (by decide +kernel) (by decide +kernel)
set_option maxRecDepth 20000 in
theorem gX6_saleDay_X6_found : GoodIn wsX6_saleDay (wsV RX6 159 RX6 yX6_found wsX6_found) := goodIn_app (goodIn_of _ (by decide +kernel)) ggX6_saleDay_X6_found
theorem dX6_saleDay_0 : decode cX6_saleDay 0 = .ok (.aload_n 0, 1) := by decide +kernel
theorem dX6_saleDay_1 : decode cX6_saleDay 1 = .ok (.iload_n 1, 1) := by decide +kernel
theorem dX6_saleDay_2 : decode cX6_saleDay 2 = .ok (.iload_n 2, 1) := by decide +kernel
theorem dX6_saleDay_3 : decode cX6_saleDay 3 = .ok (.invokevirtual 159, 3) := by decide +kernel
theorem dX6_saleDay_6 : decode cX6_saleDay 6 = .ok (.istore_n 3, 1) := by decide +kernel
theorem dX6_saleDay_7 : decode cX6_saleDay 7 = .ok (.iload_n 3, 1) := by decide +kernel
theorem dX6_saleDay_8 : decode cX6_saleDay 8 = .ok (.ifCond .ge 7, 3) := by decide +kernel
theorem dX6_saleDay_11 : decode cX6_saleDay 11 = .ok (.iconst 0, 1) := by decide +kernel
theorem dX6_saleDay_12 : decode cX6_saleDay 12 = .ok (.goto 14, 3) := by decide +kernel
theorem dX6_saleDay_15 : decode cX6_saleDay 15 = .ok (.aload_n 0, 1) := by decide +kernel
theorem dX6_saleDay_16 : decode cX6_saleDay 16 = .ok (.getfield 45, 3) := by decide +kernel
theorem dX6_saleDay_19 : decode cX6_saleDay 19 = .ok (.aload_n 0, 1) := by decide +kernel
theorem dX6_saleDay_20 : decode cX6_saleDay 20 = .ok (.getfield 73, 3) := by decide +kernel
theorem dX6_saleDay_23 : decode cX6_saleDay 23 = .ok (.iload_n 3, 1) := by decide +kernel
theorem dX6_saleDay_24 : decode cX6_saleDay 24 = .ok (.iaload, 1) := by decide +kernel
theorem dX6_saleDay_25 : decode cX6_saleDay 25 = .ok (.iaload, 1) := by decide +kernel
theorem dX6_saleDay_26 : decode cX6_saleDay 26 = .ok (.ireturn, 1) := by decide +kernel
set_option maxRecDepth 20000 in
theorem ggX6_buyDay_X6_found : GoodIn wsX6_buyDay wsX6_found := goodIn_r _ [7, 8, 9, 10, 11, 6, 12, 13, 14, 15, 16, 17, 18, 19, 20, 2, 21, 22, 23, 24, 25, 26, 27, 28, 29, 30, 31, 32, 33, 34, 35, 36, 37, 38, 39, 40, 41, 42, 43, 44, 45, 46, 47, 48, 49, 50, 1, 51, 52, 53, 54, 55, 56, 57, 58, 59, 60, 61, 62, 63, 64, 65, 66, 67, 68, 69, 70, 71, 72, 73, 74, 75, 76, 77, 78, 79, 80, 81, 82, 83, 84, 85, 86, 87, 88, 89, 90, 91, 92, 93, 94, 95, 96, 97] (by decide +kernel) (by decide +kernel)
set_option maxRecDepth 20000 in
theorem gX6_buyDay_X6_found : GoodIn wsX6_buyDay (wsV RX6 159 RX6 yX6_found wsX6_found) := goodIn_app (goodIn_of _ (by decide +kernel)) ggX6_buyDay_X6_found
theorem dX6_buyDay_0 : decode cX6_buyDay 0 = .ok (.aload_n 0, 1) := by decide +kernel
theorem dX6_buyDay_1 : decode cX6_buyDay 1 = .ok (.iload_n 1, 1) := by decide +kernel
theorem dX6_buyDay_2 : decode cX6_buyDay 2 = .ok (.iload_n 2, 1) := by decide +kernel
theorem dX6_buyDay_3 : decode cX6_buyDay 3 = .ok (.invokevirtual 159, 3) := by decide +kernel
theorem dX6_buyDay_6 : decode cX6_buyDay 6 = .ok (.istore_n 3, 1) := by decide +kernel
theorem dX6_buyDay_7 : decode cX6_buyDay 7 = .ok (.iload_n 3, 1) := by decide +kernel
theorem dX6_buyDay_8 : decode cX6_buyDay 8 = .ok (.ifCond .ge 7, 3) := by decide +kernel
theorem dX6_buyDay_11 : decode cX6_buyDay 11 = .ok (.iconst 0, 1) := by decide +kernel
theorem dX6_buyDay_12 : decode cX6_buyDay 12 = .ok (.goto 27, 3) := by decide +kernel
theorem dX6_buyDay_15 : decode cX6_buyDay 15 = .ok (.aload_n 0, 1) := by decide +kernel
theorem dX6_buyDay_16 : decode cX6_buyDay 16 = .ok (.getfield 76, 3) := by decide +kernel
theorem dX6_buyDay_19 : decode cX6_buyDay 19 = .ok (.iload_n 3, 1) := by decide +kernel
theorem dX6_buyDay_20 : decode cX6_buyDay 20 = .ok (.iaload, 1) := by decide +kernel
theorem dX6_buyDay_21 : decode cX6_buyDay 21 = .ok (.ifCond .ge 7, 3) := by decide +kernel
theorem dX6_buyDay_24 : decode cX6_buyDay 24 = .ok (.iconst (-1), 1) := by decide +kernel
theorem dX6_buyDay_25 : decode cX6_buyDay 25 = .ok (.goto 14, 3) := by decide +kernel
theorem dX6_buyDay_28 : decode cX6_buyDay 28 = .ok (.aload_n 0, 1) := by decide +kernel
theorem dX6_buyDay_29 : decode cX6_buyDay 29 = .ok (.getfield 45, 3) := by decide +kernel
theorem dX6_buyDay_32 : decode cX6_buyDay 32 = .ok (.aload_n 0, 1) := by decide +kernel
theorem dX6_buyDay_33 : decode cX6_buyDay 33 = .ok (.getfield 76, 3) := by decide +kernel
theorem dX6_buyDay_36 : decode cX6_buyDay 36 = .ok (.iload_n 3, 1) := by decide +kernel
theorem dX6_buyDay_37 : decode cX6_buyDay 37 = .ok (.iaload, 1) := by decide +kernel
theorem dX6_buyDay_38 : decode cX6_buyDay 38 = .ok (.iaload, 1) := by decide +kernel
theorem dX6_buyDay_39 : decode cX6_buyDay 39 = .ok (.ireturn, 1) := by decide +kernel
set_option maxRecDepth 20000 in
theorem ggX6_unitsOf_X6_found : GoodIn wsX6_unitsOf wsX6_found := goodIn_r _ [6, 7, 8, 9, 10, 5, 11, 12, 13, 14, 15, 16, 17, 18, 19, 20, 21, 22, 23, 24, 25, 26, 27, 28, 29, 30, 31, 32, 33, 34, 35, 36, 37, 38, 39, 40, 41, 42, 43, 44, 45, 46, 47, 48, 49, 50, 51, 52, 1, 53, 54, 55, 56, 57, 58, 59, 60, 61, 62, 63, 64, 65, 66, 67, 68, 69, 70, 71, 72, 73, 74, 75, 76, 77, 78, 79, 80, 81, 82, 83, 84, 85, 86, 87, 88, 89, 90, 91, 92, 93, 94, 95, 96, 97] (by decide +kernel) (by decide +kernel)
set_option maxRecDepth 20000 in
theorem gX6_unitsOf_X6_found : GoodIn wsX6_unitsOf (wsV RX6 159 RX6 yX6_found wsX6_found) := goodIn_app (goodIn_of _ (by decide +kernel)) ggX6_unitsOf_X6_found
theorem dX6_unitsOf_0 : decode cX6_unitsOf 0 = .ok (.aload_n 0, 1) := by decide +kernel
theorem dX6_unitsOf_1 : decode cX6_unitsOf 1 = .ok (.iload_n 1, 1) := by decide +kernel
theorem dX6_unitsOf_2 : decode cX6_unitsOf 2 = .ok (.iload_n 2, 1) := by decide +kernel
theorem dX6_unitsOf_3 : decode cX6_unitsOf 3 = .ok (.invokevirtual 159, 3) := by decide +kernel
theorem dX6_unitsOf_6 : decode cX6_unitsOf 6 = .ok (.istore_n 3, 1) := by decide +kernel
theorem dX6_unitsOf_7 : decode cX6_unitsOf 7 = .ok (.iload_n 3, 1) := by decide +kernel
theorem dX6_unitsOf_8 : decode cX6_unitsOf 8 = .ok (.ifCond .ge 7, 3) := by decide +kernel
theorem dX6_unitsOf_11 : decode cX6_unitsOf 11 = .ok (.iconst 0, 1) := by decide +kernel
theorem dX6_unitsOf_12 : decode cX6_unitsOf 12 = .ok (.goto 10, 3) := by decide +kernel
theorem dX6_unitsOf_15 : decode cX6_unitsOf 15 = .ok (.aload_n 0, 1) := by decide +kernel
theorem dX6_unitsOf_16 : decode cX6_unitsOf 16 = .ok (.getfield 82, 3) := by decide +kernel
theorem dX6_unitsOf_19 : decode cX6_unitsOf 19 = .ok (.iload_n 3, 1) := by decide +kernel
theorem dX6_unitsOf_20 : decode cX6_unitsOf 20 = .ok (.laload, 1) := by decide +kernel
theorem dX6_unitsOf_21 : decode cX6_unitsOf 21 = .ok (.l2i, 1) := by decide +kernel
theorem dX6_unitsOf_22 : decode cX6_unitsOf 22 = .ok (.ireturn, 1) := by decide +kernel
set_option maxRecDepth 20000 in
theorem ggX6_costOf_X6_found : GoodIn wsX6_costOf wsX6_found := goodIn_r _ [6, 7, 8, 9, 10, 5, 11, 12, 13, 14, 15, 16, 17, 18, 19, 20, 21, 22, 23, 24, 25, 26, 27, 28, 29, 30, 31, 32, 33, 34, 35, 36, 37, 38, 39, 40, 41, 42, 43, 44, 45, 46, 47, 48, 49, 50, 51, 52, 53, 1, 54, 55, 56, 57, 58, 59, 60, 61, 62, 63, 64, 65, 66, 67, 68, 69, 70, 71, 72, 73, 74, 75, 76, 77, 78, 79, 80, 81, 82, 83, 84, 85, 86, 87, 88, 89, 90, 91, 92, 93, 94, 95, 96, 97] (by decide +kernel) (by decide +kernel)
set_option maxRecDepth 20000 in
theorem gX6_costOf_X6_found : GoodIn wsX6_costOf (wsV RX6 159 RX6 yX6_found wsX6_found) := goodIn_app (goodIn_of _ (by decide +kernel)) ggX6_costOf_X6_found
theorem dX6_costOf_0 : decode cX6_costOf 0 = .ok (.aload_n 0, 1) := by decide +kernel
theorem dX6_costOf_1 : decode cX6_costOf 1 = .ok (.iload_n 1, 1) := by decide +kernel
theorem dX6_costOf_2 : decode cX6_costOf 2 = .ok (.iload_n 2, 1) := by decide +kernel
theorem dX6_costOf_3 : decode cX6_costOf 3 = .ok (.invokevirtual 159, 3) := by decide +kernel
theorem dX6_costOf_6 : decode cX6_costOf 6 = .ok (.istore_n 3, 1) := by decide +kernel
theorem dX6_costOf_7 : decode cX6_costOf 7 = .ok (.iload_n 3, 1) := by decide +kernel
theorem dX6_costOf_8 : decode cX6_costOf 8 = .ok (.ifCond .ge 7, 3) := by decide +kernel
theorem dX6_costOf_11 : decode cX6_costOf 11 = .ok (.iconst 0, 1) := by decide +kernel
theorem dX6_costOf_12 : decode cX6_costOf 12 = .ok (.goto 10, 3) := by decide +kernel
theorem dX6_costOf_15 : decode cX6_costOf 15 = .ok (.aload_n 0, 1) := by decide +kernel
theorem dX6_costOf_16 : decode cX6_costOf 16 = .ok (.getfield 85, 3) := by decide +kernel
theorem dX6_costOf_19 : decode cX6_costOf 19 = .ok (.iload_n 3, 1) := by decide +kernel
theorem dX6_costOf_20 : decode cX6_costOf 20 = .ok (.laload, 1) := by decide +kernel
theorem dX6_costOf_21 : decode cX6_costOf 21 = .ok (.l2i, 1) := by decide +kernel
theorem dX6_costOf_22 : decode cX6_costOf 22 = .ok (.ireturn, 1) := by decide +kernel
set_option maxRecDepth 20000 in
theorem ggX6_proceedsOf_X6_found : GoodIn wsX6_proceedsOf wsX6_found := goodIn_r _ [6, 7, 8, 9, 10, 5, 11, 12, 13, 14, 15, 16, 17, 18, 19, 20, 21, 22, 23, 24, 25, 26, 27, 28, 29, 30, 31, 32, 33, 34, 35, 36, 37, 38, 39, 40, 41, 42, 43, 44, 45, 46, 47, 48, 49, 50, 51, 52, 53, 54, 1, 55, 56, 57, 58, 59, 60, 61, 62, 63, 64, 65, 66, 67, 68, 69, 70, 71, 72, 73, 74, 75, 76, 77, 78, 79, 80, 81, 82, 83, 84, 85, 86, 87, 88, 89, 90, 91, 92, 93, 94, 95, 96, 97] (by decide +kernel) (by decide +kernel)
set_option maxRecDepth 20000 in
theorem gX6_proceedsOf_X6_found : GoodIn wsX6_proceedsOf (wsV RX6 159 RX6 yX6_found wsX6_found) := goodIn_app (goodIn_of _ (by decide +kernel)) ggX6_proceedsOf_X6_found
theorem dX6_proceedsOf_0 : decode cX6_proceedsOf 0 = .ok (.aload_n 0, 1) := by decide +kernel
theorem dX6_proceedsOf_1 : decode cX6_proceedsOf 1 = .ok (.iload_n 1, 1) := by decide +kernel
theorem dX6_proceedsOf_2 : decode cX6_proceedsOf 2 = .ok (.iload_n 2, 1) := by decide +kernel
theorem dX6_proceedsOf_3 : decode cX6_proceedsOf 3 = .ok (.invokevirtual 159, 3) := by decide +kernel
theorem dX6_proceedsOf_6 : decode cX6_proceedsOf 6 = .ok (.istore_n 3, 1) := by decide +kernel
theorem dX6_proceedsOf_7 : decode cX6_proceedsOf 7 = .ok (.iload_n 3, 1) := by decide +kernel
theorem dX6_proceedsOf_8 : decode cX6_proceedsOf 8 = .ok (.ifCond .ge 7, 3) := by decide +kernel
theorem dX6_proceedsOf_11 : decode cX6_proceedsOf 11 = .ok (.iconst 0, 1) := by decide +kernel
theorem dX6_proceedsOf_12 : decode cX6_proceedsOf 12 = .ok (.goto 10, 3) := by decide +kernel
theorem dX6_proceedsOf_15 : decode cX6_proceedsOf 15 = .ok (.aload_n 0, 1) := by decide +kernel
theorem dX6_proceedsOf_16 : decode cX6_proceedsOf 16 = .ok (.getfield 88, 3) := by decide +kernel
theorem dX6_proceedsOf_19 : decode cX6_proceedsOf 19 = .ok (.iload_n 3, 1) := by decide +kernel
theorem dX6_proceedsOf_20 : decode cX6_proceedsOf 20 = .ok (.laload, 1) := by decide +kernel
theorem dX6_proceedsOf_21 : decode cX6_proceedsOf 21 = .ok (.l2i, 1) := by decide +kernel
theorem dX6_proceedsOf_22 : decode cX6_proceedsOf 22 = .ok (.ireturn, 1) := by decide +kernel
set_option maxRecDepth 20000 in
theorem ggX6_gained_X6_reckons : GoodIn wsX6_gained wsX6_reckons := goodIn_r _ [10, 1, 11, 2, 12, 13, 14, 15, 9, 16, 17, 18, 19, 20, 21, 22, 23, 24, 25, 26, 27, 28, 29, 30, 31, 32, 33, 34, 35, 36, 37, 38, 39, 40, 3, 41, 42, 43, 5, 4, 44, 45, 46, 47, 48, 49, 50, 51, 52, 53, 54, 55, 56, 57, 58, 59, 60, 61, 62, 63, 64, 65, 66, 67, 68, 69, 70, 71, 72, 73, 74, 75, 76, 77, 78, 79, 80, 81, 82] (by decide +kernel) (by decide +kernel)
set_option maxRecDepth 20000 in
theorem gX6_gained_X6_reckons : GoodIn wsX6_gained (wsV RX6 149 RX6 yX6_reckons wsX6_reckons) := goodIn_app (goodIn_of _ (by decide +kernel)) ggX6_gained_X6_reckons
theorem dX6_gained_0 : decode cX6_gained 0 = .ok (.aload_n 0, 1) := by decide +kernel
theorem dX6_gained_1 : decode cX6_gained 1 = .ok (.iload_n 1, 1) := by decide +kernel
theorem dX6_gained_2 : decode cX6_gained 2 = .ok (.invokevirtual 149, 3) := by decide +kernel
theorem dX6_gained_5 : decode cX6_gained 5 = .ok (.lconst 0, 1) := by decide +kernel
theorem dX6_gained_6 : decode cX6_gained 6 = .ok (.lstore_n 3, 1) := by decide +kernel
theorem dX6_gained_7 : decode cX6_gained 7 = .ok (.iconst 0, 1) := by decide +kernel
theorem dX6_gained_8 : decode cX6_gained 8 = .ok (.istore 5, 2) := by decide +kernel
theorem dX6_gained_10 : decode cX6_gained 10 = .ok (.iload 5, 2) := by decide +kernel
theorem dX6_gained_12 : decode cX6_gained 12 = .ok (.aload_n 0, 1) := by decide +kernel
theorem dX6_gained_13 : decode cX6_gained 13 = .ok (.getfield 127, 3) := by decide +kernel
theorem dX6_gained_16 : decode cX6_gained 16 = .ok (.if_icmp .ge 51, 3) := by decide +kernel
theorem dX6_gained_19 : decode cX6_gained 19 = .ok (.lload_n 3, 1) := by decide +kernel
theorem dX6_gained_20 : decode cX6_gained 20 = .ok (.aload_n 0, 1) := by decide +kernel
theorem dX6_gained_21 : decode cX6_gained 21 = .ok (.getfield 45, 3) := by decide +kernel
theorem dX6_gained_24 : decode cX6_gained 24 = .ok (.aload_n 0, 1) := by decide +kernel
theorem dX6_gained_25 : decode cX6_gained 25 = .ok (.getfield 73, 3) := by decide +kernel
theorem dX6_gained_28 : decode cX6_gained 28 = .ok (.iload 5, 2) := by decide +kernel
theorem dX6_gained_30 : decode cX6_gained 30 = .ok (.iaload, 1) := by decide +kernel
theorem dX6_gained_31 : decode cX6_gained 31 = .ok (.iaload, 1) := by decide +kernel
theorem dX6_gained_32 : decode cX6_gained 32 = .ok (.sipush 365, 3) := by decide +kernel
theorem dX6_gained_35 : decode cX6_gained 35 = .ok (.idiv, 1) := by decide +kernel
theorem dX6_gained_36 : decode cX6_gained 36 = .ok (.iload_n 2, 1) := by decide +kernel
theorem dX6_gained_37 : decode cX6_gained 37 = .ok (.if_icmp .ne 21, 3) := by decide +kernel
theorem dX6_gained_40 : decode cX6_gained 40 = .ok (.aload_n 0, 1) := by decide +kernel
theorem dX6_gained_41 : decode cX6_gained 41 = .ok (.getfield 88, 3) := by decide +kernel
theorem dX6_gained_44 : decode cX6_gained 44 = .ok (.iload 5, 2) := by decide +kernel
theorem dX6_gained_46 : decode cX6_gained 46 = .ok (.laload, 1) := by decide +kernel
theorem dX6_gained_47 : decode cX6_gained 47 = .ok (.aload_n 0, 1) := by decide +kernel
theorem dX6_gained_48 : decode cX6_gained 48 = .ok (.getfield 85, 3) := by decide +kernel
theorem dX6_gained_51 : decode cX6_gained 51 = .ok (.iload 5, 2) := by decide +kernel
theorem dX6_gained_53 : decode cX6_gained 53 = .ok (.laload, 1) := by decide +kernel
theorem dX6_gained_54 : decode cX6_gained 54 = .ok (.lsub, 1) := by decide +kernel
theorem dX6_gained_55 : decode cX6_gained 55 = .ok (.goto 4, 3) := by decide +kernel
theorem dX6_gained_58 : decode cX6_gained 58 = .ok (.lconst 0, 1) := by decide +kernel
theorem dX6_gained_59 : decode cX6_gained 59 = .ok (.ladd, 1) := by decide +kernel
theorem dX6_gained_60 : decode cX6_gained 60 = .ok (.lstore_n 3, 1) := by decide +kernel
theorem dX6_gained_61 : decode cX6_gained 61 = .ok (.iinc 5 1, 3) := by decide +kernel
theorem dX6_gained_64 : decode cX6_gained 64 = .ok (.goto (-54), 3) := by decide +kernel
theorem dX6_gained_67 : decode cX6_gained 67 = .ok (.lload_n 3, 1) := by decide +kernel
theorem dX6_gained_68 : decode cX6_gained 68 = .ok (.l2i, 1) := by decide +kernel
theorem dX6_gained_69 : decode cX6_gained 69 = .ok (.ireturn, 1) := by decide +kernel
set_option maxRecDepth 20000 in
theorem ggX6_gain_X6_isShare : GoodIn wsX6_gain wsX6_isShare := goodIn_r _ [5, 6, 7, 4, 8] (by decide +kernel) (by decide +kernel)
set_option maxRecDepth 20000 in
theorem gX6_gain_X6_isShare : GoodIn wsX6_gain (va_wsS RX6 109 yX6_isShare wsX6_isShare) := goodIn_app (goodIn_of _ (by decide +kernel)) ggX6_gain_X6_isShare
set_option maxRecDepth 20000 in
theorem ggX6_gain_X6_isIn : GoodIn wsX6_gain wsX6_isIn := goodIn_r _ [8] (by decide +kernel) (by decide +kernel)
set_option maxRecDepth 20000 in
theorem gX6_gain_X6_isIn : GoodIn wsX6_gain (va_wsS RX6 94 yX6_isIn wsX6_isIn) := goodIn_app (goodIn_of _ (by decide +kernel)) ggX6_gain_X6_isIn
set_option maxRecDepth 20000 in
theorem ggX6_gain_X6_gained : GoodIn wsX6_gain wsX6_gained := goodIn_r _ [12, 13, 14, 15, 16, 17, 18, 19, 20, 4, 21, 22, 23, 24, 25, 26, 27, 28, 29, 30, 31, 32, 33, 34, 35, 36, 37, 38, 39, 40, 41, 42, 43, 44, 45, 46, 47, 48, 49, 50, 51, 52, 53, 54, 55, 56, 57, 58, 59, 60, 61, 62, 63, 64, 65, 66, 67, 68, 69, 70, 71, 72, 73, 74, 75, 76, 77, 78, 79, 80, 81, 82, 83, 84, 85, 86, 87, 88, 89, 90, 91, 92, 93] (by decide +kernel) (by decide +kernel)
set_option maxRecDepth 20000 in
theorem gX6_gain_X6_gained : GoodIn wsX6_gain (wsV RX6 162 RX6 yX6_gained wsX6_gained) := goodIn_app (goodIn_of _ (by decide +kernel)) ggX6_gain_X6_gained
theorem dX6_gain_0 : decode cX6_gain 0 = .ok (.aload_n 0, 1) := by decide +kernel
theorem dX6_gain_1 : decode cX6_gain 1 = .ok (.iload_n 1, 1) := by decide +kernel
theorem dX6_gain_2 : decode cX6_gain 2 = .ok (.invokestatic 109, 3) := by decide +kernel
theorem dX6_gain_5 : decode cX6_gain 5 = .ok (.ifCond .eq 16, 3) := by decide +kernel
theorem dX6_gain_8 : decode cX6_gain 8 = .ok (.iload_n 2, 1) := by decide +kernel
theorem dX6_gain_9 : decode cX6_gain 9 = .ok (.iconst 0, 1) := by decide +kernel
theorem dX6_gain_10 : decode cX6_gain 10 = .ok (.iconst 4, 1) := by decide +kernel
theorem dX6_gain_11 : decode cX6_gain 11 = .ok (.invokestatic 94, 3) := by decide +kernel
theorem dX6_gain_14 : decode cX6_gain 14 = .ok (.ifCond .eq 7, 3) := by decide +kernel
theorem dX6_gain_17 : decode cX6_gain 17 = .ok (.iconst 0, 1) := by decide +kernel
theorem dX6_gain_18 : decode cX6_gain 18 = .ok (.goto 4, 3) := by decide +kernel
theorem dX6_gain_21 : decode cX6_gain 21 = .ok (.iconst 1, 1) := by decide +kernel
theorem dX6_gain_22 : decode cX6_gain 22 = .ok (.putfield 91, 3) := by decide +kernel
theorem dX6_gain_25 : decode cX6_gain 25 = .ok (.aload_n 0, 1) := by decide +kernel
theorem dX6_gain_26 : decode cX6_gain 26 = .ok (.getfield 91, 3) := by decide +kernel
theorem dX6_gain_29 : decode cX6_gain 29 = .ok (.ifCond .le 7, 3) := by decide +kernel
theorem dX6_gain_32 : decode cX6_gain 32 = .ok (.iconst 0, 1) := by decide +kernel
theorem dX6_gain_33 : decode cX6_gain 33 = .ok (.goto 9, 3) := by decide +kernel
theorem dX6_gain_36 : decode cX6_gain 36 = .ok (.aload_n 0, 1) := by decide +kernel
theorem dX6_gain_37 : decode cX6_gain 37 = .ok (.iload_n 1, 1) := by decide +kernel
theorem dX6_gain_38 : decode cX6_gain 38 = .ok (.iload_n 2, 1) := by decide +kernel
theorem dX6_gain_39 : decode cX6_gain 39 = .ok (.invokevirtual 162, 3) := by decide +kernel
theorem dX6_gain_42 : decode cX6_gain 42 = .ok (.ireturn, 1) := by decide +kernel
set_option maxRecDepth 20000 in
theorem ggX6_netOf_X6_gained : GoodIn wsX6_netOf wsX6_gained := goodIn_r _ [5, 6, 7, 8, 9, 10, 11, 12, 13, 4, 14, 15, 16, 17, 18, 19, 20, 21, 22, 23, 24, 25, 26, 27, 28, 29, 30, 31, 32, 33, 34, 35, 36, 37, 38, 39, 40, 41, 42, 43, 44, 45, 46, 47, 48, 49, 50, 51, 52, 53, 54, 55, 56, 57, 58, 59, 60, 61, 62, 63, 64, 65, 66, 67, 68, 69, 70, 71, 72, 73, 74, 75, 76, 77, 78, 79, 80, 81, 82, 83, 84, 85, 86] (by decide +kernel) (by decide +kernel)
set_option maxRecDepth 20000 in
theorem gX6_netOf_X6_gained : GoodIn wsX6_netOf (wsV RX6 162 RX6 yX6_gained wsX6_gained) := goodIn_app (goodIn_of _ (by decide +kernel)) ggX6_netOf_X6_gained
theorem dX6_netOf_0 : decode cX6_netOf 0 = .ok (.aload_n 0, 1) := by decide +kernel
theorem dX6_netOf_1 : decode cX6_netOf 1 = .ok (.iconst 0, 1) := by decide +kernel
theorem dX6_netOf_2 : decode cX6_netOf 2 = .ok (.iload_n 1, 1) := by decide +kernel
theorem dX6_netOf_3 : decode cX6_netOf 3 = .ok (.invokevirtual 162, 3) := by decide +kernel
theorem dX6_netOf_6 : decode cX6_netOf 6 = .ok (.aload_n 0, 1) := by decide +kernel
theorem dX6_netOf_7 : decode cX6_netOf 7 = .ok (.iconst 1, 1) := by decide +kernel
theorem dX6_netOf_8 : decode cX6_netOf 8 = .ok (.iload_n 1, 1) := by decide +kernel
theorem dX6_netOf_9 : decode cX6_netOf 9 = .ok (.invokevirtual 162, 3) := by decide +kernel
theorem dX6_netOf_12 : decode cX6_netOf 12 = .ok (.iadd, 1) := by decide +kernel
theorem dX6_netOf_13 : decode cX6_netOf 13 = .ok (.aload_n 0, 1) := by decide +kernel
theorem dX6_netOf_14 : decode cX6_netOf 14 = .ok (.iconst 2, 1) := by decide +kernel
theorem dX6_netOf_15 : decode cX6_netOf 15 = .ok (.iload_n 1, 1) := by decide +kernel
theorem dX6_netOf_16 : decode cX6_netOf 16 = .ok (.invokevirtual 162, 3) := by decide +kernel
theorem dX6_netOf_19 : decode cX6_netOf 19 = .ok (.iadd, 1) := by decide +kernel
theorem dX6_netOf_20 : decode cX6_netOf 20 = .ok (.ireturn, 1) := by decide +kernel
set_option maxRecDepth 20000 in
theorem ggX6_isYear_X6_isIn : GoodIn wsX6_isYear wsX6_isIn := goodIn_r _ [5] (by decide +kernel) (by decide +kernel)
set_option maxRecDepth 20000 in
theorem gX6_isYear_X6_isIn : GoodIn wsX6_isYear (va_wsS RX6 94 yX6_isIn wsX6_isIn) := goodIn_app (goodIn_of _ (by decide +kernel)) ggX6_isYear_X6_isIn
theorem dX6_isYear_0 : decode cX6_isYear 0 = .ok (.aload_n 0, 1) := by decide +kernel
theorem dX6_isYear_1 : decode cX6_isYear 1 = .ok (.iload_n 1, 1) := by decide +kernel
theorem dX6_isYear_2 : decode cX6_isYear 2 = .ok (.iconst 0, 1) := by decide +kernel
theorem dX6_isYear_3 : decode cX6_isYear 3 = .ok (.iconst 4, 1) := by decide +kernel
theorem dX6_isYear_4 : decode cX6_isYear 4 = .ok (.invokestatic 94, 3) := by decide +kernel
theorem dX6_isYear_7 : decode cX6_isYear 7 = .ok (.ifCond .eq 7, 3) := by decide +kernel
theorem dX6_isYear_10 : decode cX6_isYear 10 = .ok (.iconst 0, 1) := by decide +kernel
theorem dX6_isYear_11 : decode cX6_isYear 11 = .ok (.goto 4, 3) := by decide +kernel
theorem dX6_isYear_14 : decode cX6_isYear 14 = .ok (.iconst 1, 1) := by decide +kernel
theorem dX6_isYear_15 : decode cX6_isYear 15 = .ok (.putfield 91, 3) := by decide +kernel
theorem dX6_isYear_18 : decode cX6_isYear 18 = .ok (.aload_n 0, 1) := by decide +kernel
theorem dX6_isYear_19 : decode cX6_isYear 19 = .ok (.getfield 91, 3) := by decide +kernel
theorem dX6_isYear_22 : decode cX6_isYear 22 = .ok (.ifCond .ne 7, 3) := by decide +kernel
theorem dX6_isYear_25 : decode cX6_isYear 25 = .ok (.iconst 1, 1) := by decide +kernel
theorem dX6_isYear_26 : decode cX6_isYear 26 = .ok (.goto 4, 3) := by decide +kernel
theorem dX6_isYear_29 : decode cX6_isYear 29 = .ok (.iconst 0, 1) := by decide +kernel
theorem dX6_isYear_30 : decode cX6_isYear 30 = .ok (.ireturn, 1) := by decide +kernel
set_option maxRecDepth 20000 in
theorem ggX6_net_X6_isYear : GoodIn wsX6_net wsX6_isYear := goodIn_r _ [5, 6, 7, 8, 4, 9, 69, 70, 71, 72, 73, 74, 75, 76, 77, 78, 79, 80, 81, 82, 83, 84, 85, 86, 87, 88, 89, 90, 91, 92, 93, 94, 95, 96, 97, 98] (by decide +kernel) (by decide +kernel)
set_option maxRecDepth 20000 in
theorem gX6_net_X6_isYear : GoodIn wsX6_net (wsV RX6 165 RX6 yX6_isYear wsX6_isYear) := goodIn_app (goodIn_of _ (by decide +kernel)) ggX6_net_X6_isYear
set_option maxRecDepth 20000 in
theorem ggX6_net_X6_netOf : GoodIn wsX6_net wsX6_netOf := goodIn_r _ [13, 14, 15, 16, 4, 17, 18, 19, 20, 21, 22, 23, 24, 25, 26, 27, 28, 29, 30, 31, 32, 33, 34, 35, 36, 37, 38, 39, 40, 41, 42, 43, 44, 45, 46, 47, 48, 49, 50, 51, 52, 53, 54, 55, 56, 57, 58, 59, 60, 61, 62, 63, 64, 65, 66, 67, 68, 69, 70, 71, 72, 73, 74, 75, 76, 77, 78, 79, 80, 81, 82, 83, 84, 85, 86, 87, 88, 89, 90, 91, 92, 93, 94, 95, 96, 97, 98] (by decide +kernel) (by decide +kernel)
set_option maxRecDepth 20000 in
theorem gX6_net_X6_netOf : GoodIn wsX6_net (wsV RX6 168 RX6 yX6_netOf wsX6_netOf) := goodIn_app (goodIn_of _ (by decide +kernel)) ggX6_net_X6_netOf
theorem dX6_net_0 : decode cX6_net 0 = .ok (.aload_n 0, 1) := by decide +kernel
theorem dX6_net_1 : decode cX6_net 1 = .ok (.iload_n 1, 1) := by decide +kernel
theorem dX6_net_2 : decode cX6_net 2 = .ok (.invokevirtual 165, 3) := by decide +kernel
theorem dX6_net_5 : decode cX6_net 5 = .ok (.ifCond .eq 11, 3) := by decide +kernel
theorem dX6_net_8 : decode cX6_net 8 = .ok (.aload_n 0, 1) := by decide +kernel
theorem dX6_net_9 : decode cX6_net 9 = .ok (.iload_n 1, 1) := by decide +kernel
theorem dX6_net_10 : decode cX6_net 10 = .ok (.invokevirtual 168, 3) := by decide +kernel
theorem dX6_net_13 : decode cX6_net 13 = .ok (.goto 4, 3) := by decide +kernel
theorem dX6_net_16 : decode cX6_net 16 = .ok (.iconst 0, 1) := by decide +kernel
theorem dX6_net_17 : decode cX6_net 17 = .ok (.ireturn, 1) := by decide +kernel
set_option maxRecDepth 20000 in
theorem ggX6_above_X6_netOf : GoodIn wsX6_above wsX6_netOf := goodIn_r _ [6, 7, 8, 9, 5, 10, 11, 12, 13, 14, 15, 16, 17, 18, 19, 20, 21, 22, 23, 24, 25, 26, 27, 28, 29, 30, 31, 32, 33, 34, 35, 36, 37, 38, 39, 40, 41, 42, 43, 44, 45, 46, 47, 48, 49, 50, 51, 52, 53, 54, 55, 56, 57, 58, 59, 60, 61, 62, 63, 64, 65, 66, 67, 68, 69, 70, 71, 72, 73, 74, 75, 76, 77, 78, 79, 80, 81, 82, 83, 84, 85, 86, 87, 88, 89, 90, 91] (by decide +kernel) (by decide +kernel)
set_option maxRecDepth 20000 in
theorem gX6_above_X6_netOf : GoodIn wsX6_above (wsV RX6 168 RX6 yX6_netOf wsX6_netOf) := goodIn_app (goodIn_of _ (by decide +kernel)) ggX6_above_X6_netOf
theorem dX6_above_0 : decode cX6_above 0 = .ok (.aload_n 0, 1) := by decide +kernel
theorem dX6_above_1 : decode cX6_above 1 = .ok (.iload_n 1, 1) := by decide +kernel
theorem dX6_above_2 : decode cX6_above 2 = .ok (.invokevirtual 168, 3) := by decide +kernel
theorem dX6_above_5 : decode cX6_above 5 = .ok (.aload_n 0, 1) := by decide +kernel
theorem dX6_above_6 : decode cX6_above 6 = .ok (.getfield 38, 3) := by decide +kernel
theorem dX6_above_9 : decode cX6_above 9 = .ok (.iload_n 1, 1) := by decide +kernel
theorem dX6_above_10 : decode cX6_above 10 = .ok (.iaload, 1) := by decide +kernel
theorem dX6_above_11 : decode cX6_above 11 = .ok (.isub, 1) := by decide +kernel
theorem dX6_above_12 : decode cX6_above 12 = .ok (.istore_n 2, 1) := by decide +kernel
theorem dX6_above_13 : decode cX6_above 13 = .ok (.iload_n 2, 1) := by decide +kernel
theorem dX6_above_14 : decode cX6_above 14 = .ok (.ifCond .le 7, 3) := by decide +kernel
theorem dX6_above_17 : decode cX6_above 17 = .ok (.iload_n 2, 1) := by decide +kernel
theorem dX6_above_18 : decode cX6_above 18 = .ok (.goto 4, 3) := by decide +kernel
theorem dX6_above_21 : decode cX6_above 21 = .ok (.iconst 0, 1) := by decide +kernel
theorem dX6_above_22 : decode cX6_above 22 = .ok (.ireturn, 1) := by decide +kernel
set_option maxRecDepth 20000 in
theorem ggX6_into_X6_netOf : GoodIn wsX6_into wsX6_netOf := goodIn_r _ [5, 6, 7, 8, 4, 9, 10, 11, 12, 13, 14, 15, 16, 17, 18, 19, 20, 21, 22, 23, 24, 25, 26, 27, 28, 29, 30, 31, 32, 33, 34, 35, 36, 37, 38, 39, 40, 41, 42, 43, 44, 45, 46, 47, 48, 49, 50, 51, 52, 53, 54, 55, 56, 57, 58, 59, 60, 66, 67, 68, 69, 70, 71, 72, 73, 74, 75, 76, 77, 78, 79, 80, 81, 82, 83, 84, 85, 86, 87, 88, 89, 90, 91, 92, 93, 94, 95] (by decide +kernel) (by decide +kernel)
set_option maxRecDepth 20000 in
theorem gX6_into_X6_netOf : GoodIn wsX6_into (wsV RX6 168 RX6 yX6_netOf wsX6_netOf) := goodIn_app (goodIn_of _ (by decide +kernel)) ggX6_into_X6_netOf
set_option maxRecDepth 20000 in
theorem ggX6_into_X6_above : GoodIn wsX6_into wsX6_above := goodIn_r _ [64, 65, 1, 2, 3, 4, 5, 6, 7, 8, 9, 10, 11, 12, 13, 14, 15, 16, 17, 18, 19, 20, 21, 22, 23, 24, 25, 26, 27, 28, 29, 30, 31, 32, 33, 34, 35, 36, 37, 38, 39, 40, 41, 42, 43, 44, 45, 46, 47, 48, 49, 50, 51, 52, 53, 54, 55, 56, 57, 58, 59, 60, 66, 67, 68, 69, 70, 71, 72, 73, 74, 75, 76, 77, 78, 79, 80, 81, 82, 83, 84, 85, 86, 87, 88, 89, 90, 91, 92, 93, 94, 95] (by decide +kernel) (by decide +kernel)
set_option maxRecDepth 20000 in
theorem gX6_into_X6_above : GoodIn wsX6_into (wsV RX6 171 RX6 yX6_above wsX6_above) := goodIn_app (goodIn_of _ (by decide +kernel)) ggX6_into_X6_above
theorem dX6_into_0 : decode cX6_into 0 = .ok (.iconst 0, 1) := by decide +kernel
theorem dX6_into_1 : decode cX6_into 1 = .ok (.istore_n 2, 1) := by decide +kernel
theorem dX6_into_2 : decode cX6_into 2 = .ok (.iconst 0, 1) := by decide +kernel
theorem dX6_into_3 : decode cX6_into 3 = .ok (.istore_n 3, 1) := by decide +kernel
theorem dX6_into_4 : decode cX6_into 4 = .ok (.iload_n 3, 1) := by decide +kernel
theorem dX6_into_5 : decode cX6_into 5 = .ok (.iload_n 1, 1) := by decide +kernel
theorem dX6_into_6 : decode cX6_into 6 = .ok (.if_icmp .ge 53, 3) := by decide +kernel
theorem dX6_into_9 : decode cX6_into 9 = .ok (.aload_n 0, 1) := by decide +kernel
theorem dX6_into_10 : decode cX6_into 10 = .ok (.iload_n 3, 1) := by decide +kernel
theorem dX6_into_11 : decode cX6_into 11 = .ok (.invokevirtual 168, 3) := by decide +kernel
theorem dX6_into_14 : decode cX6_into 14 = .ok (.istore 4, 2) := by decide +kernel
theorem dX6_into_16 : decode cX6_into 16 = .ok (.aload_n 0, 1) := by decide +kernel
theorem dX6_into_17 : decode cX6_into 17 = .ok (.iload_n 3, 1) := by decide +kernel
theorem dX6_into_18 : decode cX6_into 18 = .ok (.invokevirtual 171, 3) := by decide +kernel
theorem dX6_into_21 : decode cX6_into 21 = .ok (.iload_n 2, 1) := by decide +kernel
theorem dX6_into_22 : decode cX6_into 22 = .ok (.if_icmp .ge 11, 3) := by decide +kernel
theorem dX6_into_25 : decode cX6_into 25 = .ok (.aload_n 0, 1) := by decide +kernel
theorem dX6_into_26 : decode cX6_into 26 = .ok (.iload_n 3, 1) := by decide +kernel
theorem dX6_into_27 : decode cX6_into 27 = .ok (.invokevirtual 171, 3) := by decide +kernel
theorem dX6_into_30 : decode cX6_into 30 = .ok (.goto 4, 3) := by decide +kernel
theorem dX6_into_33 : decode cX6_into 33 = .ok (.iload_n 2, 1) := by decide +kernel
theorem dX6_into_34 : decode cX6_into 34 = .ok (.istore 5, 2) := by decide +kernel
theorem dX6_into_36 : decode cX6_into 36 = .ok (.iload 4, 2) := by decide +kernel
theorem dX6_into_38 : decode cX6_into 38 = .ok (.ifCond .ge 10, 3) := by decide +kernel
theorem dX6_into_41 : decode cX6_into 41 = .ok (.iload_n 2, 1) := by decide +kernel
theorem dX6_into_42 : decode cX6_into 42 = .ok (.iload 4, 2) := by decide +kernel
theorem dX6_into_44 : decode cX6_into 44 = .ok (.isub, 1) := by decide +kernel
theorem dX6_into_45 : decode cX6_into 45 = .ok (.goto 7, 3) := by decide +kernel
theorem dX6_into_48 : decode cX6_into 48 = .ok (.iload_n 2, 1) := by decide +kernel
theorem dX6_into_49 : decode cX6_into 49 = .ok (.iload 5, 2) := by decide +kernel
theorem dX6_into_51 : decode cX6_into 51 = .ok (.isub, 1) := by decide +kernel
theorem dX6_into_52 : decode cX6_into 52 = .ok (.istore_n 2, 1) := by decide +kernel
theorem dX6_into_53 : decode cX6_into 53 = .ok (.iinc 3 1, 3) := by decide +kernel
theorem dX6_into_56 : decode cX6_into 56 = .ok (.goto (-52), 3) := by decide +kernel
theorem dX6_into_59 : decode cX6_into 59 = .ok (.iload_n 2, 1) := by decide +kernel
theorem dX6_into_60 : decode cX6_into 60 = .ok (.ireturn, 1) := by decide +kernel
set_option maxRecDepth 20000 in
theorem ggX6_carried_X6_isYear : GoodIn wsX6_carried wsX6_isYear := goodIn_r _ [5, 6, 7, 8, 4, 9, 78, 79, 80, 81, 82, 83, 84, 85, 86, 87, 88, 89, 90, 91, 92, 93, 94, 95, 96, 97, 98, 99, 100, 101, 102, 103, 104, 105, 106, 107] (by decide +kernel) (by decide +kernel)
set_option maxRecDepth 20000 in
theorem gX6_carried_X6_isYear : GoodIn wsX6_carried (wsV RX6 165 RX6 yX6_isYear wsX6_isYear) := goodIn_app (goodIn_of _ (by decide +kernel)) ggX6_carried_X6_isYear
set_option maxRecDepth 20000 in
theorem ggX6_carried_X6_into : GoodIn wsX6_carried wsX6_into := goodIn_r _ [13, 14, 15, 16, 4, 17, 18, 19, 20, 21, 22, 23, 24, 25, 26, 27, 28, 29, 30, 31, 32, 33, 34, 35, 36, 37, 38, 39, 40, 41, 42, 43, 44, 45, 46, 47, 48, 49, 50, 51, 52, 53, 54, 55, 56, 57, 58, 59, 60, 61, 62, 63, 64, 65, 66, 67, 68, 69, 70, 71, 72, 73, 74, 75, 76, 77, 78, 79, 80, 81, 82, 83, 84, 85, 86, 87, 88, 89, 90, 91, 92, 93, 94, 95, 96, 97, 98, 99, 100, 101, 102, 103, 104, 105, 106, 107] (by decide +kernel) (by decide +kernel)
set_option maxRecDepth 20000 in
theorem gX6_carried_X6_into : GoodIn wsX6_carried (wsV RX6 174 RX6 yX6_into wsX6_into) := goodIn_app (goodIn_of _ (by decide +kernel)) ggX6_carried_X6_into
theorem dX6_carried_0 : decode cX6_carried 0 = .ok (.aload_n 0, 1) := by decide +kernel
theorem dX6_carried_1 : decode cX6_carried 1 = .ok (.iload_n 1, 1) := by decide +kernel
theorem dX6_carried_2 : decode cX6_carried 2 = .ok (.invokevirtual 165, 3) := by decide +kernel
theorem dX6_carried_5 : decode cX6_carried 5 = .ok (.ifCond .eq 13, 3) := by decide +kernel
theorem dX6_carried_8 : decode cX6_carried 8 = .ok (.aload_n 0, 1) := by decide +kernel
theorem dX6_carried_9 : decode cX6_carried 9 = .ok (.iload_n 1, 1) := by decide +kernel
theorem dX6_carried_10 : decode cX6_carried 10 = .ok (.iconst 1, 1) := by decide +kernel
theorem dX6_carried_11 : decode cX6_carried 11 = .ok (.iadd, 1) := by decide +kernel
theorem dX6_carried_12 : decode cX6_carried 12 = .ok (.invokevirtual 174, 3) := by decide +kernel
theorem dX6_carried_15 : decode cX6_carried 15 = .ok (.goto 4, 3) := by decide +kernel
theorem dX6_carried_18 : decode cX6_carried 18 = .ok (.iconst 0, 1) := by decide +kernel
theorem dX6_carried_19 : decode cX6_carried 19 = .ok (.ireturn, 1) := by decide +kernel
set_option maxRecDepth 20000 in
theorem ggX6_taxable_X6_isYear : GoodIn wsX6_taxable wsX6_isYear := goodIn_r _ [5, 6, 7, 8, 4, 9, 78, 79, 80, 81, 82, 83, 84, 85, 86, 87, 88, 89, 90, 91, 92, 93, 94, 95, 96, 97, 98, 99, 100, 101, 102, 103, 104, 105, 106, 107] (by decide +kernel) (by decide +kernel)
set_option maxRecDepth 20000 in
theorem gX6_taxable_X6_isYear : GoodIn wsX6_taxable (wsV RX6 165 RX6 yX6_isYear wsX6_isYear) := goodIn_app (goodIn_of _ (by decide +kernel)) ggX6_taxable_X6_isYear
set_option maxRecDepth 20000 in
theorem ggX6_taxable_X6_above : GoodIn wsX6_taxable wsX6_above := goodIn_r _ [13, 14, 15, 16, 17, 4, 18, 19, 20, 21, 22, 23, 24, 25, 26, 27, 28, 29, 30, 31, 32, 33, 34, 35, 36, 37, 38, 39, 40, 41, 42, 43, 44, 45, 46, 47, 48, 49, 50, 51, 52, 53, 54, 55, 56, 57, 58, 59, 60, 61, 62, 63, 64, 65, 66, 67, 68, 69, 70, 71, 72, 73, 78, 79, 80, 81, 82, 83, 84, 85, 86, 87, 88, 89, 90, 91, 92, 93, 94, 95, 96, 97, 98, 99, 100, 101, 102, 103, 104, 105, 106, 107] (by decide +kernel) (by decide +kernel)
set_option maxRecDepth 20000 in
theorem gX6_taxable_X6_above : GoodIn wsX6_taxable (wsV RX6 171 RX6 yX6_above wsX6_above) := goodIn_app (goodIn_of _ (by decide +kernel)) ggX6_taxable_X6_above
set_option maxRecDepth 20000 in
theorem ggX6_taxable_X6_into : GoodIn wsX6_taxable wsX6_into := goodIn_r _ [77, 15, 16, 17, 4, 18, 19, 20, 21, 22, 23, 24, 25, 26, 27, 28, 29, 30, 31, 32, 33, 34, 35, 36, 37, 38, 39, 40, 41, 42, 43, 44, 45, 46, 47, 48, 49, 50, 51, 52, 53, 54, 55, 56, 57, 58, 59, 60, 61, 62, 63, 64, 65, 66, 67, 68, 69, 70, 71, 72, 73, 10, 11, 12, 13, 14, 78, 79, 80, 81, 82, 83, 84, 85, 86, 87, 88, 89, 90, 91, 92, 93, 94, 95, 96, 97, 98, 99, 100, 101, 102, 103, 104, 105, 106, 107] (by decide +kernel) (by decide +kernel)
set_option maxRecDepth 20000 in
theorem gX6_taxable_X6_into : GoodIn wsX6_taxable (wsV RX6 174 RX6 yX6_into wsX6_into) := goodIn_app (goodIn_of _ (by decide +kernel)) ggX6_taxable_X6_into
theorem dX6_taxable_0 : decode cX6_taxable 0 = .ok (.aload_n 0, 1) := by decide +kernel
theorem dX6_taxable_1 : decode cX6_taxable 1 = .ok (.iload_n 1, 1) := by decide +kernel
theorem dX6_taxable_2 : decode cX6_taxable 2 = .ok (.invokevirtual 165, 3) := by decide +kernel
theorem dX6_taxable_5 : decode cX6_taxable 5 = .ok (.ifCond .ne 5, 3) := by decide +kernel
theorem dX6_taxable_8 : decode cX6_taxable 8 = .ok (.iconst 0, 1) := by decide +kernel
theorem dX6_taxable_9 : decode cX6_taxable 9 = .ok (.ireturn, 1) := by decide +kernel
theorem dX6_taxable_10 : decode cX6_taxable 10 = .ok (.aload_n 0, 1) := by decide +kernel
theorem dX6_taxable_11 : decode cX6_taxable 11 = .ok (.iload_n 1, 1) := by decide +kernel
theorem dX6_taxable_12 : decode cX6_taxable 12 = .ok (.invokevirtual 171, 3) := by decide +kernel
theorem dX6_taxable_15 : decode cX6_taxable 15 = .ok (.aload_n 0, 1) := by decide +kernel
theorem dX6_taxable_16 : decode cX6_taxable 16 = .ok (.iload_n 1, 1) := by decide +kernel
theorem dX6_taxable_17 : decode cX6_taxable 17 = .ok (.invokevirtual 174, 3) := by decide +kernel
theorem dX6_taxable_20 : decode cX6_taxable 20 = .ok (.isub, 1) := by decide +kernel
theorem dX6_taxable_21 : decode cX6_taxable 21 = .ok (.istore_n 2, 1) := by decide +kernel
theorem dX6_taxable_22 : decode cX6_taxable 22 = .ok (.iload_n 2, 1) := by decide +kernel
theorem dX6_taxable_23 : decode cX6_taxable 23 = .ok (.ifCond .le 7, 3) := by decide +kernel
theorem dX6_taxable_26 : decode cX6_taxable 26 = .ok (.iload_n 2, 1) := by decide +kernel
theorem dX6_taxable_27 : decode cX6_taxable 27 = .ok (.goto 4, 3) := by decide +kernel
theorem dX6_taxable_30 : decode cX6_taxable 30 = .ok (.iconst 0, 1) := by decide +kernel
theorem dX6_taxable_31 : decode cX6_taxable 31 = .ok (.ireturn, 1) := by decide +kernel
end
section
/-- the links from class to class of one nest, as the tables have them -/
def nestF : List (String × Nat × String × String × String) := [("GainsReckoner$Ledger", 73, "GainsReckoner$Journal", "sale", "[Z"), ("GainsReckoner$Sheet", 79, "GainsReckoner$Journal", "sale", "[Z"), ("GainsReckoner", 105, "GainsReckoner$Journal", "sale", "[Z"), ("GainsReckoner", 93, "GainsReckoner$Journal", "cancelled", "[Z"), ("GainsReckoner", 99, "GainsReckoner$Journal", "share", "[I"), ("GainsReckoner$Sheet", 57, "GainsReckoner$Journal", "day", "[I"), ("GainsReckoner$Ledger", 58, "GainsReckoner$Journal", "day", "[I"), ("GainsReckoner", 102, "GainsReckoner$Journal", "day", "[I"), ("GainsReckoner$Sheet", 54, "GainsReckoner$Journal", "count", "[I"), ("GainsReckoner$Ledger", 66, "GainsReckoner$Journal", "count", "[I"), ("GainsReckoner", 108, "GainsReckoner$Journal", "count", "[I"), ("GainsReckoner$Sheet", 83, "GainsReckoner$Journal", "money", "[I"), ("GainsReckoner$Sheet", 47, "GainsReckoner$Journal", "size", "I"), ("GainsReckoner$Ledger", 55, "GainsReckoner$Journal", "size", "I"), ("GainsReckoner", 87, "GainsReckoner$Journal", "size", "I"), ("GainsReckoner", 84, "GainsReckoner$Splits", "size", "I"), ("GainsReckoner$Ledger", 98, "GainsReckoner$Sheet", "day", "[I"), ("GainsReckoner$Ledger", 77, "GainsReckoner$Sheet", "bought", "[I"), ("GainsReckoner$Ledger", 103, "GainsReckoner$Sheet", "boughtGone", "[I"), ("GainsReckoner$Ledger", 88, "GainsReckoner$Sheet", "cost", "[I"), ("GainsReckoner$Ledger", 80, "GainsReckoner$Sheet", "sold", "[I"), ("GainsReckoner$Ledger", 106, "GainsReckoner$Sheet", "soldGone", "[I"), ("GainsReckoner$Ledger", 95, "GainsReckoner$Sheet", "proceeds", "[I"), ("GainsReckoner$Ledger", 115, "GainsReckoner$Sheet", "pooledUnits", "[I"), ("GainsReckoner", 133, "GainsReckoner$Sheet", "pooledUnits", "[I"), ("GainsReckoner$Ledger", 118, "GainsReckoner$Sheet", "pooledCost", "[I"), ("GainsReckoner", 136, "GainsReckoner$Sheet", "pooledCost", "[I"), ("GainsReckoner$Ledger", 43, "GainsReckoner$Sheet", "size", "I"), ("GainsReckoner", 161, "GainsReckoner$Matches", "kind", "[I"), ("GainsReckoner", 164, "GainsReckoner$Matches", "soldOn", "[I"), ("GainsReckoner", 167, "GainsReckoner$Matches", "boughtOn", "[I"), ("GainsReckoner", 170, "GainsReckoner$Matches", "units", "[I"), ("GainsReckoner", 173, "GainsReckoner$Matches", "cost", "[I"), ("GainsReckoner", 176, "GainsReckoner$Matches", "proceeds", "[I"), ("GainsReckoner$Ledger", 40, "GainsReckoner$Matches", "size", "I"), ("GainsReckoner", 156, "GainsReckoner$Matches", "size", "I"), ("GainsReckoner", 63, "GainsReckoner$Ledger", "splits", "LGainsReckoner$Splits;"), ("GainsReckoner", 123, "GainsReckoner$Ledger", "sheet", "LGainsReckoner$Sheet;"), ("GainsReckoner", 147, "GainsReckoner$Ledger", "matched", "LGainsReckoner$Matches;")]
def nestM : List (String × Nat × MethodName) := [("GainsReckoner", 9, ⟨"GainsReckoner$Journal", "<init>", "()V"⟩), ("GainsReckoner$Ledger", 11, ⟨"GainsReckoner$Splits", "<init>", "()V"⟩), ("GainsReckoner$Ledger", 20, ⟨"GainsReckoner$Sheet", "<init>", "()V"⟩), ("GainsReckoner$Ledger", 27, ⟨"GainsReckoner$Matches", "<init>", "()V"⟩), ("GainsReckoner$Ledger", 91, ⟨"GainsReckoner", "part", "(IIII)I"⟩)]
def NW (U : State) : Prop := (∀ q ∈ nestF, va_Nw (.fieldLinkNest q.1 q.2.1 q.2.2.1 q.2.2.2.1 q.2.2.2.2 "GainsReckoner") U) ∧ ∀ q ∈ nestM, va_Nw (.methodLinkNest q.1 q.2.1 q.2.2 "GainsReckoner") U
theorem NW.warm {s U : State} (hW : s.WarmedH U.vm) (h : NW s) : NW U := ⟨fun q hq => va_Nw.warmF hW (h.1 q hq), fun q hq => va_Nw.warmM hW (h.2 q hq)⟩
theorem NW.same {u U : State} (hv : u.vm = U.vm) (h : NW u) : NW U := ⟨fun q hq => va_Nw.same rfl hv (h.1 q hq), fun q hq => va_Nw.same rfl hv (h.2 q hq)⟩
theorem NW.f {args : Array Value} {U : State} (h : NW U) (a : String) (i : Nat) (b n d : String) (hq : (a, i, b, n, d) ∈ nestF) : (Cond.fieldLinkNest a i b n d "GainsReckoner").before args U = true := va_Nw.use rfl (h.1 _ hq)
theorem NW.m {U : State} (h : NW U) (a : String) (i : Nat) (y : MethodName) (hq : (a, i, y) ∈ nestM) : va_Nw (.methodLinkNest a i y "GainsReckoner") U := h.2 _ hq
end
section
-- a store of numbers over a fixed world: rows of my own over the kit's
section MK0
def iI (z : Int) : Int32 := Int32.ofInt z
def lI (z : Int) : Int64 := Int64.ofInt z
theorem iI_add (a b : Int) : iI a + iI b = iI (a + b) := (Int32.ofInt_add a b).symm
theorem iI_sub (a b : Int) : iI a - iI b = iI (a - b) := (Int32.ofInt_sub a b).symm
theorem iI_mul (a b : Int) : iI a * iI b = iI (a * b) := (Int32.ofInt_mul a b).symm
theorem iI_neg (a : Int) : -iI a = iI (-a) := (Int32.ofInt_neg a).symm
theorem lI_add (a b : Int) : lI a + lI b = lI (a + b) := (Int64.ofInt_add a b).symm
theorem lI_sub (a b : Int) : lI a - lI b = lI (a - b) := (Int64.ofInt_sub a b).symm
theorem lI_mul (a b : Int) : lI a * lI b = lI (a * b) := (Int64.ofInt_mul a b).symm
theorem lI_neg (a : Int) : -lI a = lI (-a) := (Int64.ofInt_neg a).symm
theorem bm32 {z : Int} (h : -2147483648 ≤ z ∧ z < 2147483648) : z.bmod (2 ^ 32) = z := by
  rw [Int.bmod_eq_of_le (by omega) (by omega)]
theorem bm64 {z : Int} (h : -9223372036854775808 ≤ z ∧ z < 9223372036854775808) : z.bmod (2 ^ 64) = z := by
  rw [Int.bmod_eq_of_le (by omega) (by omega)]
theorem iI_toInt {z : Int} (h : -2147483648 ≤ z ∧ z < 2147483648) : (iI z).toInt = z := by
  rw [iI, Int32.toInt_ofInt]
  exact bm32 h
theorem lI_toInt {z : Int} (h : -9223372036854775808 ≤ z ∧ z < 9223372036854775808) : (lI z).toInt = z := by
  rw [lI, Int64.toInt_ofInt]
  exact bm64 h
theorem iI_self (x : Int32) : x = iI x.toInt := (Int32.ofInt_toInt x).symm
theorem iI_rng (x : Int32) : -2147483648 ≤ x.toInt ∧ x.toInt < 2147483648 := by
  have h1 := Int32.le_toInt x
  have h2 := Int32.toInt_lt x
  omega
theorem lI_self (x : Int64) : x = lI x.toInt := (Int64.ofInt_toInt x).symm
theorem iI_lt {a b : Int} (ha : -2147483648 ≤ a ∧ a < 2147483648) (hb : -2147483648 ≤ b ∧ b < 2147483648) : iI a < iI b ↔ a < b := by
  rw [Int32.lt_iff_toInt_lt, iI_toInt ha, iI_toInt hb]
theorem iI_le {a b : Int} (ha : -2147483648 ≤ a ∧ a < 2147483648) (hb : -2147483648 ≤ b ∧ b < 2147483648) : iI a ≤ iI b ↔ a ≤ b := by
  rw [Int32.le_iff_toInt_le, iI_toInt ha, iI_toInt hb]
theorem iI_eq {a b : Int} (ha : -2147483648 ≤ a ∧ a < 2147483648) (hb : -2147483648 ≤ b ∧ b < 2147483648) : iI a = iI b ↔ a = b := by
  rw [← Int32.toInt_inj, iI_toInt ha, iI_toInt hb]
theorem lI_lt {a b : Int} (ha : -9223372036854775808 ≤ a ∧ a < 9223372036854775808) (hb : -9223372036854775808 ≤ b ∧ b < 9223372036854775808) : lI a < lI b ↔ a < b := by
  rw [Int64.lt_iff_toInt_lt, lI_toInt ha, lI_toInt hb]
theorem lI_eq {a b : Int} (ha : -9223372036854775808 ≤ a ∧ a < 9223372036854775808) (hb : -9223372036854775808 ≤ b ∧ b < 9223372036854775808) : lI a = lI b ↔ a = b := by
  rw [← Int64.toInt_inj, lI_toInt ha, lI_toInt hb]
theorem iI_clamp {j : Nat} (h : j < 2147483648) : (iI (j : Int)).toNatClampNeg = j := by
  show (iI (j : Int)).toInt.toNat = j
  rw [iI_toInt (by omega)]; omega
theorem iI_in {j N : Nat} (h : j < N) (hN : N < 2147483648) : vp_in (iI (j : Int)) N := by
  intro q
  rcases q with q | q
  · rw [show (0 : Int32) = iI 0 from rfl, iI_lt (by omega) (by omega)] at q; omega
  · rw [iI_clamp (by omega)] at q; omega
theorem iI_div {a b : Int} (ha : 0 ≤ a ∧ a < 2147483648) (hb : 0 < b ∧ b < 2147483648) : iI a / iI b = iI (a / b) := by
  have h0 : 0 ≤ a / b := Int.ediv_nonneg ha.1 (Int.le_of_lt hb.1)
  have h1 : a / b ≤ a := Int.ediv_le_self b ha.1
  rw [← Int32.toInt_inj, Int32.toInt_div, iI_toInt (by omega), iI_toInt (by omega), iI_toInt (by omega), Int.tdiv_eq_ediv_of_nonneg ha.1, Int.bmod_eq_of_le (by omega) (by omega)]
theorem lI_div {a b : Int} (ha : 0 ≤ a ∧ a < 9223372036854775808) (hb : 0 < b ∧ b < 9223372036854775808) : lI a / lI b = lI (a / b) := by
  have h0 : 0 ≤ a / b := Int.ediv_nonneg ha.1 (Int.le_of_lt hb.1)
  have h1 : a / b ≤ a := Int.ediv_le_self b ha.1
  rw [← Int64.toInt_inj, Int64.toInt_div, lI_toInt (by omega), lI_toInt (by omega), lI_toInt (by omega), Int.tdiv_eq_ediv_of_nonneg ha.1, Int.bmod_eq_of_le (by omega) (by omega)]
theorem iI_i2l {a : Int} (ha : -2147483648 ≤ a ∧ a < 2147483648) : (iI a).toInt64 = lI a := by
  rw [← Int64.toInt_inj, Int32.toInt_toInt64, iI_toInt ha, lI_toInt (by omega)]
theorem lI_l2i (a : Int) : (lI a).toInt32 = iI a := by
  rw [← Int32.toInt_inj]; simp [lI, iI]
/-- the world: n cells, cell k at ad k, its contents told by the numbers st k -/
def wl (n : Nat) (cel : (Nat → Nat) → (Nat → Int) → Nat → va_E) (ad : Nat → Nat) (st : Nat → Nat → Int) : va_W := (List.range n).map (fun k => (ad k, cel ad (st k) k))
theorem wl_get {n : Nat} {cel : (Nat → Nat) → (Nat → Int) → Nat → va_E} {ad : Nat → Nat} {st : Nat → Nat → Int} {k : Nat} (hk : k < n) : (wl n cel ad st)[k]? = some (ad k, cel ad (st k) k) := by
  simp [wl, hk]
theorem wl_of {n : Nat} {cel : (Nat → Nat) → (Nat → Int) → Nat → va_E} {ad : Nat → Nat} {st : Nat → Nat → Int} {k : Nat} {q : Nat × va_E} (h : (wl n cel ad st)[k]? = some q) : k < n ∧ q = (ad k, cel ad (st k) k) := by
  have hk : k < n := by
    have := (List.getElem?_eq_some_iff.mp h).1
    simpa [wl] using this
  rw [wl_get hk] at h
  exact ⟨hk, (Option.some.inj h).symm⟩
/-- st with the cell k's numbers f -/
def stC (st : Nat → Nat → Int) (k : Nat) (f : Nat → Int) : Nat → Nat → Int := fun j => if j = k then f else st j
def fnU (f : Nat → Int) (k : Nat) (v : Int) : Nat → Int := fun j => if j = k then v else f j
theorem stC_eq (st : Nat → Nat → Int) (k : Nat) (f : Nat → Int) : stC st k f k = f := by simp [stC]
theorem stC_ne {st : Nat → Nat → Int} {k j : Nat} {f : Nat → Int} (h : j ≠ k) : stC st k f j = st j := by simp [stC, h]
theorem fnU_eq (f : Nat → Int) (k : Nat) (v : Int) : fnU f k v k = v := by simp [fnU]
theorem fnU_ne {f : Nat → Int} {k j : Nat} {v : Int} (h : j ≠ k) : fnU f k v j = f j := by simp [fnU, h]
theorem wl_set {n : Nat} {cel : (Nat → Nat) → (Nat → Int) → Nat → va_E} {ad : Nat → Nat} {st : Nat → Nat → Int} {k : Nat} (f : Nat → Int) {e : va_E} (he : cel ad f k = e) : (wl n cel ad st).set k (ad k, e) = wl n cel ad (stC st k f) := by
  apply List.ext_getElem?
  intro j
  by_cases hj : j < n
  · rw [wl_get hj]
    by_cases hjk : j = k
    · subst hjk
      rw [List.getElem?_set_self (by simpa [wl] using hj), stC_eq, he]
    · rw [List.getElem?_set_ne (Ne.symm hjk), wl_get hj, stC_ne hjk]
  · rw [List.getElem?_eq_none (by simp [wl]; omega), List.getElem?_eq_none (by simp [wl]; omega)]
def wA (n : Nat) (ad : Nat → Nat) : Nat → Prop := fun q => ∃ k, k < n ∧ q = ad k
def GW (D : va_G) (cl : List vw_C) (n : Nat) (cel : (Nat → Nat) → (Nat → Int) → Nat → va_E) (ad : Nat → Nat) (A : Nat → Prop) (H0 : Heap) (st : Nat → Nat → Int) (H : Heap) (locs : List Loc) : Prop :=
  va_P D cl (wl n cel ad st) H ∧ va_D A (wl n cel ad st) ∧ va_S A H0 H locs
def mP (D : va_G) (cl : List vw_C) (tys : List (ClassId × FieldType)) (n : Nat) (cel : (Nat → Nat) → (Nat → Int) → Nat → va_E) (ad : Nat → Nat) (st : Nat → Nat → Int) : State → Prop :=
  fun U => va_P D cl (wl n cel ad st) U.heap ∧ va_K D cl tys U ∧ va_D (fun _ => True) (wl n cel ad st) ∧ NW U
def mB (D : va_G) (cl : List vw_C) (n : Nat) (cel : (Nat → Nat) → (Nat → Int) → Nat → va_E) (ad : Nat → Nat) : (Nat → Nat → Int) → State → Prop := fun st t => va_P D cl (wl n cel ad st) t.heap
def MI (l : Launch) (y : MethodName) (ws : List Cond) (rm : Room) (D : va_G) (cl : List vw_C) (tys : List (ClassId × FieldType)) (n : Nat) (cel : (Nat → Nat) → (Nat → Int) → Nat → va_E) (ad : Nat → Nat) (st : Nat → Nat → Int) (av : List Value) (post : Int → (Nat → Nat → Int) → Prop) : Prop :=
  Met l y ws rm (va_Pc av (mP D cl tys n cel ad st)) (va_Qi (fun (r : Int32) (u : Nat → Nat → Int) => ∃ z : Int, r = iI z ∧ post z u) (mB D cl n cel ad) (wA n ad)) 0 0 (wA n ad)
def MJ (l : Launch) (y : MethodName) (ws : List Cond) (rm : Room) (D : va_G) (cl : List vw_C) (tys : List (ClassId × FieldType)) (n : Nat) (cel : (Nat → Nat) → (Nat → Int) → Nat → va_E) (ad : Nat → Nat) (st : Nat → Nat → Int) (av : List Value) (post : Int → (Nat → Nat → Int) → Prop) : Prop :=
  Met l y ws rm (va_Pc av (mP D cl tys n cel ad st)) (va_Ql (fun (r : Int64) (u : Nat → Nat → Int) => ∃ z : Int, r = lI z ∧ post z u) (mB D cl n cel ad) (wA n ad)) 0 0 (wA n ad)
def MV (l : Launch) (y : MethodName) (ws : List Cond) (rm : Room) (D : va_G) (cl : List vw_C) (tys : List (ClassId × FieldType)) (n : Nat) (cel : (Nat → Nat) → (Nat → Int) → Nat → va_E) (ad : Nat → Nat) (st : Nat → Nat → Int) (av : List Value) (post : (Nat → Nat → Int) → Prop) : Prop :=
  Met l y ws rm (va_Pc av (mP D cl tys n cel ad st)) (va_Qv post (mB D cl n cel ad) (wA n ad)) 0 0 (wA n ad)
theorem mP_blind {D : va_G} {cl : List vw_C} {tys : List (ClassId × FieldType)} {n : Nat} {cel : (Nat → Nat) → (Nat → Int) → Nat → va_E} {ad : Nat → Nat} {st : Nat → Nat → Int} {av : List Value} : FrameBlind (va_Pc av (mP D cl tys n cel ad st)) := by
  intro a U g mk h
  obtain ⟨h1, h2, h3, h4, h5⟩ := h
  exact ⟨h1, h2, va_K.moved (u := U) (U := U.calling g mk a) (Vm.Alike.refl U.vm) h3, h4, NW.same (u := U) (U := U.calling g mk a) rfl h5⟩
end MK0
section MK1
variable {p : Program} {l : Launch} {e : Env} {R : Room} {s : State} {m : MethodId} {args : Array Value} {below : List Frame} {meth : Method} {c : Code} {H : Heap} {locs : List Loc} {cells slots : Nat} {Q : State → Prop}
variable {cc : ByteArray} {pc : Nat} {ls : Array Slot} {rest : List Value} {D : va_G} {cl : List vw_C} {A : Nat → Prop} {tys : List (ClassId × FieldType)} {H0 : Heap} {n : Nat} {cel : (Nat → Nat) → (Nat → Int) → Nat → va_E} {ad : Nat → Nat} {st : Nat → Nat → Int}
theorem mk_open {y : MethodName} {ws ws' : List Cond} {rm : Room} {maxL : Nat} {ret : Option FieldType} {av : List Value} {Qc : Array Value → State → Outcome → State → Prop} {mc ms : Nat} {free : Addr → Prop} (hy : plainName y.cls = true) (hw : ws = Cond.code y cc maxL ret :: ws') (hlen : (lg_sl av).length ≤ maxL)
    (body : ∀ (p : Program) (e : Env) (s : State) (m : MethodId) (args : Array Value) (below : List Frame) (meth : Method) (c : Code), p.tables.exec = Jvm.exec → c.code = cc → c.maxLocals = maxL → meth.sig.returnType = ret → s.vm.findClass y.cls = some m.cls → (∀ w ∈ ws, w.before args s = true) → meth.locks = false → va_K D cl tys s → NW s → args = av.toArray → ∀ ls : Array Slot, lv_has ls maxL (lv_args 0 av) → GW D cl n cel ad (wA n ad) s.heap st s.heap [] → W p l e (headSpec ws rm).room s m args below meth c s.heap [] 0 0 (MQ below Qc args s mc ms free) (F0 m 0 ls [])) :
    Met l y ws rm (va_Pc av (mP D cl tys n cel ad st)) Qc mc ms free := by
  refine Met.ofW (cc := cc) (maxL := maxL) (ret := ret) hy hw ?_
  intro p e s m args below meth c s₁ B hml hv
  obtain ⟨rfl, hP, hK, hD, hN⟩ := hv
  have hl := lv_entry av (n := maxL) hlen
  rw [lg_entry_eq]
  refine body p e s m _ below meth c B.exec B.bytes hml B.returns (findClass_of_methodNamed B.named) (atoms_spec B.pre) B.notSynchronized hK hN rfl _ hl ⟨hP, hD.weaken (fun k q hk _ => ?_), va_S.rf⟩
  obtain ⟨h1, h2⟩ := wl_of hk
  exact ⟨k, h1, by rw [h2]⟩
theorem mk_retI {z : Int} {post : Int → (Nat → Nat → Int) → Prop} (hexec : p.tables.exec = Jvm.exec) (hb : c.code = cc) (hr : meth.sig.returnType = some .int) (hlocks : meth.locks = false) (hW : GW D cl n cel ad (wA n ad) s.heap st H locs) (hp : post z st) (hdg : decode cc pc = .ok (.ireturn, 1)) :
    W p l e R s m args below meth c H locs 0 0 (MQ below (va_Qi (fun (r : Int32) (u : Nat → Nat → Int) => ∃ z : Int, r = iI z ∧ post z u) (mB D cl n cel ad) (wA n ad)) args s 0 0 (wA n ad)) (F0 m pc ls [.int (iI z)]) :=
  W.iret (v := iI z) hexec hb hr (fun t ht hWm => ⟨⟨iI z, st, rfl, ⟨z, rfl, hp⟩, by show va_P D cl (wl n cel ad st) t.heap; rw [ht]; exact hW.1⟩, hW.2.2.F ht⟩) hW.2.2.2.2 hdg hlocks
theorem mk_nb {z : Int} (h : z = 0 ∨ z = 1) : narrow .boolean (.int (iI z)) = .int (iI z) := by
  rcases h with rfl | rfl <;> rfl
theorem mk_retZ {z : Int} {post : Int → (Nat → Nat → Int) → Prop} (hexec : p.tables.exec = Jvm.exec) (hb : c.code = cc) (hr : meth.sig.returnType = some .boolean) (hlocks : meth.locks = false) (hW : GW D cl n cel ad (wA n ad) s.heap st H locs) (h01 : z = 0 ∨ z = 1) (hp : post z st) (hdg : decode cc pc = .ok (.ireturn, 1)) :
    W p l e R s m args below meth c H locs 0 0 (MQ below (va_Qi (fun (r : Int32) (u : Nat → Nat → Int) => ∃ z : Int, r = iI z ∧ post z u) (mB D cl n cel ad) (wA n ad)) args s 0 0 (wA n ad)) (F0 m pc ls [.int (iI z)]) :=
  W.zret (v := iI z) hexec hb hr (mk_nb h01) (fun t ht hWm => ⟨⟨iI z, st, rfl, ⟨z, rfl, hp⟩, by show va_P D cl (wl n cel ad st) t.heap; rw [ht]; exact hW.1⟩, hW.2.2.F ht⟩) hW.2.2.2.2 hdg hlocks
theorem mk_retJ {z : Int} {post : Int → (Nat → Nat → Int) → Prop} (hexec : p.tables.exec = Jvm.exec) (hb : c.code = cc) (hr : meth.sig.returnType = some .long) (hlocks : meth.locks = false) (hW : GW D cl n cel ad (wA n ad) s.heap st H locs) (hp : post z st) (hdg : decode cc pc = .ok (.lreturn, 1)) :
    W p l e R s m args below meth c H locs 0 0 (MQ below (va_Ql (fun (r : Int64) (u : Nat → Nat → Int) => ∃ z : Int, r = lI z ∧ post z u) (mB D cl n cel ad) (wA n ad)) args s 0 0 (wA n ad)) (F0 m pc ls [.long (lI z)]) :=
  W.lret (v := lI z) hexec hb hr (fun t ht hWm => ⟨⟨lI z, st, rfl, ⟨z, rfl, hp⟩, by show va_P D cl (wl n cel ad st) t.heap; rw [ht]; exact hW.1⟩, hW.2.2.F ht⟩) hW.2.2.2.2 hdg hlocks
theorem mk_retV {post : (Nat → Nat → Int) → Prop} (hexec : p.tables.exec = Jvm.exec) (hb : c.code = cc) (hr : meth.sig.returnType = none) (hlocks : meth.locks = false) (hW : GW D cl n cel ad (wA n ad) s.heap st H locs) (hp : post st) (hdg : decode cc pc = .ok (.return_, 1)) :
    W p l e R s m args below meth c H locs 0 0 (MQ below (va_Qv post (mB D cl n cel ad) (wA n ad)) args s 0 0 (wA n ad)) (F0 m pc ls []) :=
  W.vret hexec hb hr (fun t ht hWm => ⟨⟨st, rfl, hp, by show va_P D cl (wl n cel ad st) t.heap; rw [ht]; exact hW.1⟩, hW.2.2.F ht⟩) hW.2.2.2.2 hdg hlocks
-- numbers on the stack
theorem mk_topi {x : Int} (k : ∀ y : Int, y = x → W p l e R s m args below meth c H locs cells slots Q (F0 m pc ls (.int (iI y) :: rest))) : W p l e R s m args below meth c H locs cells slots Q (F0 m pc ls (.int (iI x) :: rest)) := k x rfl
theorem mk_topl {x : Int} (k : ∀ y : Int, y = x → W p l e R s m args below meth c H locs cells slots Q (F0 m pc ls (.long (lI y) :: rest))) : W p l e R s m args below meth c H locs cells slots Q (F0 m pc ls (.long (lI x) :: rest)) := k x rfl
theorem mk_sayi {x y : Int} (h : x = y) (k : W p l e R s m args below meth c H locs cells slots Q (F0 m pc ls (.int (iI y) :: rest))) : W p l e R s m args below meth c H locs cells slots Q (F0 m pc ls (.int (iI x) :: rest)) := by rw [h]; exact k
theorem mk_sayl {x y : Int} (h : x = y) (k : W p l e R s m args below meth c H locs cells slots Q (F0 m pc ls (.long (lI y) :: rest))) : W p l e R s m args below meth c H locs cells slots Q (F0 m pc ls (.long (lI x) :: rest)) := by rw [h]; exact k
theorem mk_iconst (hexec : p.tables.exec = Jvm.exec) (hb : c.code = cc) (z : Int) (hdg : decode cc pc = .ok (.iconst z, 1)) (k : W p l e R s m args below meth c H locs cells slots Q (F0 m (pc + 1) ls (.int (iI z) :: rest))) : W p l e R s m args below meth c H locs cells slots Q (F0 m pc ls rest) := lv_iconst hexec hb hdg rfl k
theorem mk_bipush (hexec : p.tables.exec = Jvm.exec) (hb : c.code = cc) (z : Int) (hz : (Int8.ofInt z).toInt32 = iI z) (hdg : decode cc pc = .ok (.bipush z, 2)) (k : W p l e R s m args below meth c H locs cells slots Q (F0 m (pc + 2) ls (.int (iI z) :: rest))) : W p l e R s m args below meth c H locs cells slots Q (F0 m pc ls rest) := lv_bipush hexec hb hdg hz k
theorem mk_sipush (hexec : p.tables.exec = Jvm.exec) (hb : c.code = cc) (z : Int) (hz : (Int16.ofInt z).toInt32 = iI z) (hdg : decode cc pc = .ok (.sipush z, 3)) (k : W p l e R s m args below meth c H locs cells slots Q (F0 m (pc + 3) ls (.int (iI z) :: rest))) : W p l e R s m args below meth c H locs cells slots Q (F0 m pc ls rest) := lv_sipush hexec hb hdg hz k
theorem mk_lconst (hexec : p.tables.exec = Jvm.exec) (hb : c.code = cc) (z : Int) {w : Fin 2} (hz : Int64.ofNat (w : Nat) = lI z) (hdg : decode cc pc = .ok (.lconst w, 1)) (k : W p l e R s m args below meth c H locs cells slots Q (F0 m (pc + 1) ls (.long (lI z) :: rest))) : W p l e R s m args below meth c H locs cells slots Q (F0 m pc ls rest) := lv_lconst hexec hb hdg hz k
theorem mk_ldc (hexec : p.tables.exec = Jvm.exec) (hb : c.code = cc) {own : String} {index : Nat} (z : Int) (hown : s.vm.findClass own = some m.cls) (hconst : (Jvm.Cond.constant own index (iI z)).before args s = true) (hdg : decode cc pc = .ok (.ldc index, 2)) (k : W p l e R s m args below meth c H locs cells slots Q (F0 m (pc + 2) ls (.int (iI z) :: rest))) : W p l e R s m args below meth c H locs cells slots Q (F0 m pc ls rest) := lv_ldc hexec hb hown hconst hdg k
theorem mk_iadd (hexec : p.tables.exec = Jvm.exec) (hb : c.code = cc) {x y : Int} (hdg : decode cc pc = .ok (.iadd, 1)) (k : W p l e R s m args below meth c H locs cells slots Q (F0 m (pc + 1) ls (.int (iI (x + y)) :: rest))) : W p l e R s m args below meth c H locs cells slots Q (F0 m pc ls (.int (iI y) :: .int (iI x) :: rest)) := lv_iadd hexec hb hdg (by rw [iI_add]; exact k)
theorem mk_isub (hexec : p.tables.exec = Jvm.exec) (hb : c.code = cc) {x y : Int} (hdg : decode cc pc = .ok (.isub, 1)) (k : W p l e R s m args below meth c H locs cells slots Q (F0 m (pc + 1) ls (.int (iI (x - y)) :: rest))) : W p l e R s m args below meth c H locs cells slots Q (F0 m pc ls (.int (iI y) :: .int (iI x) :: rest)) := lv_isub hexec hb hdg (by rw [iI_sub]; exact k)
theorem mk_imul (hexec : p.tables.exec = Jvm.exec) (hb : c.code = cc) {x y : Int} (hdg : decode cc pc = .ok (.imul, 1)) (k : W p l e R s m args below meth c H locs cells slots Q (F0 m (pc + 1) ls (.int (iI (x * y)) :: rest))) : W p l e R s m args below meth c H locs cells slots Q (F0 m pc ls (.int (iI y) :: .int (iI x) :: rest)) := lv_imul hexec hb hdg (by rw [iI_mul]; exact k)
theorem mk_ineg (hexec : p.tables.exec = Jvm.exec) (hb : c.code = cc) {x : Int} (hdg : decode cc pc = .ok (.ineg, 1)) (k : W p l e R s m args below meth c H locs cells slots Q (F0 m (pc + 1) ls (.int (iI (-x)) :: rest))) : W p l e R s m args below meth c H locs cells slots Q (F0 m pc ls (.int (iI x) :: rest)) := lv_ineg hexec hb hdg (by rw [iI_neg]; exact k)
theorem iI_ne0 {y : Int} (hy : 0 < y ∧ y < 2147483648) : ¬ iI y = 0 := by
  rw [show (0 : Int32) = iI 0 from rfl, iI_eq (by omega) (by omega)]; omega
theorem lI_ne0 {y : Int} (hy : 0 < y ∧ y < 9223372036854775808) : ¬ lI y = 0 := by
  rw [show (0 : Int64) = lI 0 from rfl, lI_eq (by omega) (by omega)]; omega
theorem mk_idiv (hexec : p.tables.exec = Jvm.exec) (hb : c.code = cc) {x y : Int} (hdg : decode cc pc = .ok (.idiv, 1)) (hx : 0 ≤ x ∧ x < 2147483648) (hy : 0 < y ∧ y < 2147483648) (k : W p l e R s m args below meth c H locs cells slots Q (F0 m (pc + 1) ls (.int (iI (x / y)) :: rest))) : W p l e R s m args below meth c H locs cells slots Q (F0 m pc ls (.int (iI y) :: .int (iI x) :: rest)) := lv_idiv hexec hb hdg (iI_ne0 hy) (by rw [iI_div hx hy]; exact k)
theorem mk_ldiv (hexec : p.tables.exec = Jvm.exec) (hb : c.code = cc) {x y : Int} (hdg : decode cc pc = .ok (.ldiv, 1)) (hx : 0 ≤ x ∧ x < 9223372036854775808) (hy : 0 < y ∧ y < 9223372036854775808) (k : W p l e R s m args below meth c H locs cells slots Q (F0 m (pc + 1) ls (.long (lI (x / y)) :: rest))) : W p l e R s m args below meth c H locs cells slots Q (F0 m pc ls (.long (lI y) :: .long (lI x) :: rest)) := lv_ldiv hexec hb hdg (lI_ne0 hy) (by rw [lI_div hx hy]; exact k)
theorem mk_ladd (hexec : p.tables.exec = Jvm.exec) (hb : c.code = cc) {x y : Int} (hdg : decode cc pc = .ok (.ladd, 1)) (k : W p l e R s m args below meth c H locs cells slots Q (F0 m (pc + 1) ls (.long (lI (x + y)) :: rest))) : W p l e R s m args below meth c H locs cells slots Q (F0 m pc ls (.long (lI y) :: .long (lI x) :: rest)) := lv_ladd hexec hb hdg (by rw [lI_add]; exact k)
theorem mk_lsub (hexec : p.tables.exec = Jvm.exec) (hb : c.code = cc) {x y : Int} (hdg : decode cc pc = .ok (.lsub, 1)) (k : W p l e R s m args below meth c H locs cells slots Q (F0 m (pc + 1) ls (.long (lI (x - y)) :: rest))) : W p l e R s m args below meth c H locs cells slots Q (F0 m pc ls (.long (lI y) :: .long (lI x) :: rest)) := lv_lsub hexec hb hdg (by rw [lI_sub]; exact k)
theorem mk_lmul (hexec : p.tables.exec = Jvm.exec) (hb : c.code = cc) {x y : Int} (hdg : decode cc pc = .ok (.lmul, 1)) (k : W p l e R s m args below meth c H locs cells slots Q (F0 m (pc + 1) ls (.long (lI (x * y)) :: rest))) : W p l e R s m args below meth c H locs cells slots Q (F0 m pc ls (.long (lI y) :: .long (lI x) :: rest)) := lv_lmul hexec hb hdg (by rw [lI_mul]; exact k)
theorem mk_lneg (hexec : p.tables.exec = Jvm.exec) (hb : c.code = cc) {x : Int} (hdg : decode cc pc = .ok (.lneg, 1)) (k : W p l e R s m args below meth c H locs cells slots Q (F0 m (pc + 1) ls (.long (lI (-x)) :: rest))) : W p l e R s m args below meth c H locs cells slots Q (F0 m pc ls (.long (lI x) :: rest)) := lv_lneg hexec hb hdg (by rw [lI_neg]; exact k)
theorem mk_i2l (hexec : p.tables.exec = Jvm.exec) (hb : c.code = cc) {x : Int} (hdg : decode cc pc = .ok (.i2l, 1)) (hx : -2147483648 ≤ x ∧ x < 2147483648) (k : W p l e R s m args below meth c H locs cells slots Q (F0 m (pc + 1) ls (.long (lI x) :: rest))) : W p l e R s m args below meth c H locs cells slots Q (F0 m pc ls (.int (iI x) :: rest)) := lv_i2l hexec hb hdg (iI_i2l hx) k
theorem mk_l2i (hexec : p.tables.exec = Jvm.exec) (hb : c.code = cc) {x : Int} (hdg : decode cc pc = .ok (.l2i, 1)) (k : W p l e R s m args below meth c H locs cells slots Q (F0 m (pc + 1) ls (.int (iI x) :: rest))) : W p l e R s m args below meth c H locs cells slots Q (F0 m pc ls (.long (lI x) :: rest)) := lv_l2i hexec hb hdg (lI_l2i x) k
end MK1
end
section
section MK2
variable {p : Program} {l : Launch} {e : Env} {R : Room} {s : State} {m : MethodId} {args : Array Value} {below : List Frame} {meth : Method} {c : Code} {H : Heap} {locs : List Loc} {cells slots : Nat} {Q : State → Prop}
variable {cc : ByteArray} {pc : Nat} {ls : Array Slot} {rest : List Value} {D : va_G} {cl : List vw_C} {A : Nat → Prop} {tys : List (ClassId × FieldType)} {H0 : Heap} {n : Nat} {cel : (Nat → Nat) → (Nat → Int) → Nat → va_E} {ad : Nat → Nat} {st : Nat → Nat → Int}
theorem iI_eq0 {x : Int} (hx : -2147483648 ≤ x ∧ x < 2147483648) : iI x = 0 ↔ x = 0 := by
  rw [show (0 : Int32) = iI 0 from rfl, iI_eq hx (by omega)]
theorem iI_lt0 {x : Int} (hx : -2147483648 ≤ x ∧ x < 2147483648) : iI x < 0 ↔ x < 0 := by
  rw [show (0 : Int32) = iI 0 from rfl, iI_lt hx (by omega)]
theorem iI_gt0 {x : Int} (hx : -2147483648 ≤ x ∧ x < 2147483648) : 0 < iI x ↔ 0 < x := by
  rw [show (0 : Int32) = iI 0 from rfl, iI_lt (by omega) hx]
theorem iI_le0 {x : Int} (hx : -2147483648 ≤ x ∧ x < 2147483648) : iI x ≤ 0 ↔ x ≤ 0 := by
  rw [show (0 : Int32) = iI 0 from rfl, iI_le hx (by omega)]
theorem iI_ge0 {x : Int} (hx : -2147483648 ≤ x ∧ x < 2147483648) : 0 ≤ iI x ↔ 0 ≤ x := by
  rw [show (0 : Int32) = iI 0 from rfl, iI_le (by omega) hx]
theorem mk_icmp_eq (hexec : p.tables.exec = Jvm.exec) (hb : c.code = cc) {x y : Int} {off : Int} {tgt : Nat} (hdg : decode cc pc = .ok (.if_icmp .eq off, 3)) (ht : (pc : Int) + off = (tgt : Int)) (rx : -2147483648 ≤ x ∧ x < 2147483648) (ry : -2147483648 ≤ y ∧ y < 2147483648)
    (kt : x = y → W p l e R s m args below meth c H locs cells slots Q (F0 m tgt ls rest)) (kf : ¬ x = y → W p l e R s m args below meth c H locs cells slots Q (F0 m (pc + 3) ls rest)) : W p l e R s m args below meth c H locs cells slots Q (F0 m pc ls (.int (iI y) :: .int (iI x) :: rest)) :=
  lv_icmp_eq hexec hb hdg ht (fun h => kt ((iI_eq rx ry).mp h)) (fun h => kf (fun z => h ((iI_eq rx ry).mpr z)))
theorem mk_icmp_ne (hexec : p.tables.exec = Jvm.exec) (hb : c.code = cc) {x y : Int} {off : Int} {tgt : Nat} (hdg : decode cc pc = .ok (.if_icmp .ne off, 3)) (ht : (pc : Int) + off = (tgt : Int)) (rx : -2147483648 ≤ x ∧ x < 2147483648) (ry : -2147483648 ≤ y ∧ y < 2147483648)
    (kt : ¬ x = y → W p l e R s m args below meth c H locs cells slots Q (F0 m tgt ls rest)) (kf : x = y → W p l e R s m args below meth c H locs cells slots Q (F0 m (pc + 3) ls rest)) : W p l e R s m args below meth c H locs cells slots Q (F0 m pc ls (.int (iI y) :: .int (iI x) :: rest)) :=
  lv_icmp_ne hexec hb hdg ht (fun h => kt ((not_congr (iI_eq rx ry)).mp h)) (fun h => kf ((iI_eq rx ry).mp h))
theorem mk_icmp_lt (hexec : p.tables.exec = Jvm.exec) (hb : c.code = cc) {x y : Int} {off : Int} {tgt : Nat} (hdg : decode cc pc = .ok (.if_icmp .lt off, 3)) (ht : (pc : Int) + off = (tgt : Int)) (rx : -2147483648 ≤ x ∧ x < 2147483648) (ry : -2147483648 ≤ y ∧ y < 2147483648)
    (kt : x < y → W p l e R s m args below meth c H locs cells slots Q (F0 m tgt ls rest)) (kf : ¬ x < y → W p l e R s m args below meth c H locs cells slots Q (F0 m (pc + 3) ls rest)) : W p l e R s m args below meth c H locs cells slots Q (F0 m pc ls (.int (iI y) :: .int (iI x) :: rest)) :=
  lv_icmp_lt hexec hb hdg ht (fun h => kt ((iI_lt rx ry).mp h)) (fun h => kf (fun z => h ((iI_lt rx ry).mpr z)))
theorem mk_icmp_ge (hexec : p.tables.exec = Jvm.exec) (hb : c.code = cc) {x y : Int} {off : Int} {tgt : Nat} (hdg : decode cc pc = .ok (.if_icmp .ge off, 3)) (ht : (pc : Int) + off = (tgt : Int)) (rx : -2147483648 ≤ x ∧ x < 2147483648) (ry : -2147483648 ≤ y ∧ y < 2147483648)
    (kt : y ≤ x → W p l e R s m args below meth c H locs cells slots Q (F0 m tgt ls rest)) (kf : ¬ y ≤ x → W p l e R s m args below meth c H locs cells slots Q (F0 m (pc + 3) ls rest)) : W p l e R s m args below meth c H locs cells slots Q (F0 m pc ls (.int (iI y) :: .int (iI x) :: rest)) :=
  lv_icmp_ge hexec hb hdg ht (fun h => kt ((iI_le ry rx).mp h)) (fun h => kf (fun z => h ((iI_le ry rx).mpr z)))
theorem mk_icmp_gt (hexec : p.tables.exec = Jvm.exec) (hb : c.code = cc) {x y : Int} {off : Int} {tgt : Nat} (hdg : decode cc pc = .ok (.if_icmp .gt off, 3)) (ht : (pc : Int) + off = (tgt : Int)) (rx : -2147483648 ≤ x ∧ x < 2147483648) (ry : -2147483648 ≤ y ∧ y < 2147483648)
    (kt : y < x → W p l e R s m args below meth c H locs cells slots Q (F0 m tgt ls rest)) (kf : ¬ y < x → W p l e R s m args below meth c H locs cells slots Q (F0 m (pc + 3) ls rest)) : W p l e R s m args below meth c H locs cells slots Q (F0 m pc ls (.int (iI y) :: .int (iI x) :: rest)) :=
  lv_icmp_gt hexec hb hdg ht (fun h => kt ((iI_lt ry rx).mp h)) (fun h => kf (fun z => h ((iI_lt ry rx).mpr z)))
theorem mk_icmp_le (hexec : p.tables.exec = Jvm.exec) (hb : c.code = cc) {x y : Int} {off : Int} {tgt : Nat} (hdg : decode cc pc = .ok (.if_icmp .le off, 3)) (ht : (pc : Int) + off = (tgt : Int)) (rx : -2147483648 ≤ x ∧ x < 2147483648) (ry : -2147483648 ≤ y ∧ y < 2147483648)
    (kt : x ≤ y → W p l e R s m args below meth c H locs cells slots Q (F0 m tgt ls rest)) (kf : ¬ x ≤ y → W p l e R s m args below meth c H locs cells slots Q (F0 m (pc + 3) ls rest)) : W p l e R s m args below meth c H locs cells slots Q (F0 m pc ls (.int (iI y) :: .int (iI x) :: rest)) :=
  lv_icmp_le hexec hb hdg ht (fun h => kt ((iI_le rx ry).mp h)) (fun h => kf (fun z => h ((iI_le rx ry).mpr z)))
theorem mk_if_eq (hexec : p.tables.exec = Jvm.exec) (hb : c.code = cc) {x : Int} {off : Int} {tgt : Nat} (hdg : decode cc pc = .ok (.ifCond .eq off, 3)) (ht : (pc : Int) + off = (tgt : Int)) (rx : -2147483648 ≤ x ∧ x < 2147483648)
    (kt : x = 0 → W p l e R s m args below meth c H locs cells slots Q (F0 m tgt ls rest)) (kf : ¬ x = 0 → W p l e R s m args below meth c H locs cells slots Q (F0 m (pc + 3) ls rest)) : W p l e R s m args below meth c H locs cells slots Q (F0 m pc ls (.int (iI x) :: rest)) :=
  lv_if_eq hexec hb hdg ht (fun h => kt ((iI_eq0 rx).mp h)) (fun h => kf (fun z => h ((iI_eq0 rx).mpr z)))
theorem mk_if_ne (hexec : p.tables.exec = Jvm.exec) (hb : c.code = cc) {x : Int} {off : Int} {tgt : Nat} (hdg : decode cc pc = .ok (.ifCond .ne off, 3)) (ht : (pc : Int) + off = (tgt : Int)) (rx : -2147483648 ≤ x ∧ x < 2147483648)
    (kt : ¬ x = 0 → W p l e R s m args below meth c H locs cells slots Q (F0 m tgt ls rest)) (kf : x = 0 → W p l e R s m args below meth c H locs cells slots Q (F0 m (pc + 3) ls rest)) : W p l e R s m args below meth c H locs cells slots Q (F0 m pc ls (.int (iI x) :: rest)) :=
  lv_if_ne hexec hb hdg ht (fun h => kt ((not_congr (iI_eq0 rx)).mp h)) (fun h => kf ((iI_eq0 rx).mp h))
theorem mk_if_lt (hexec : p.tables.exec = Jvm.exec) (hb : c.code = cc) {x : Int} {off : Int} {tgt : Nat} (hdg : decode cc pc = .ok (.ifCond .lt off, 3)) (ht : (pc : Int) + off = (tgt : Int)) (rx : -2147483648 ≤ x ∧ x < 2147483648)
    (kt : x < 0 → W p l e R s m args below meth c H locs cells slots Q (F0 m tgt ls rest)) (kf : ¬ x < 0 → W p l e R s m args below meth c H locs cells slots Q (F0 m (pc + 3) ls rest)) : W p l e R s m args below meth c H locs cells slots Q (F0 m pc ls (.int (iI x) :: rest)) :=
  lv_if_lt hexec hb hdg ht (fun h => kt ((iI_lt0 rx).mp h)) (fun h => kf (fun z => h ((iI_lt0 rx).mpr z)))
theorem mk_if_ge (hexec : p.tables.exec = Jvm.exec) (hb : c.code = cc) {x : Int} {off : Int} {tgt : Nat} (hdg : decode cc pc = .ok (.ifCond .ge off, 3)) (ht : (pc : Int) + off = (tgt : Int)) (rx : -2147483648 ≤ x ∧ x < 2147483648)
    (kt : 0 ≤ x → W p l e R s m args below meth c H locs cells slots Q (F0 m tgt ls rest)) (kf : ¬ 0 ≤ x → W p l e R s m args below meth c H locs cells slots Q (F0 m (pc + 3) ls rest)) : W p l e R s m args below meth c H locs cells slots Q (F0 m pc ls (.int (iI x) :: rest)) :=
  lv_if_ge hexec hb hdg ht (fun h => kt ((iI_ge0 rx).mp h)) (fun h => kf (fun z => h ((iI_ge0 rx).mpr z)))
theorem mk_if_gt (hexec : p.tables.exec = Jvm.exec) (hb : c.code = cc) {x : Int} {off : Int} {tgt : Nat} (hdg : decode cc pc = .ok (.ifCond .gt off, 3)) (ht : (pc : Int) + off = (tgt : Int)) (rx : -2147483648 ≤ x ∧ x < 2147483648)
    (kt : 0 < x → W p l e R s m args below meth c H locs cells slots Q (F0 m tgt ls rest)) (kf : ¬ 0 < x → W p l e R s m args below meth c H locs cells slots Q (F0 m (pc + 3) ls rest)) : W p l e R s m args below meth c H locs cells slots Q (F0 m pc ls (.int (iI x) :: rest)) :=
  lv_if_gt hexec hb hdg ht (fun h => kt ((iI_gt0 rx).mp h)) (fun h => kf (fun z => h ((iI_gt0 rx).mpr z)))
theorem mk_if_le (hexec : p.tables.exec = Jvm.exec) (hb : c.code = cc) {x : Int} {off : Int} {tgt : Nat} (hdg : decode cc pc = .ok (.ifCond .le off, 3)) (ht : (pc : Int) + off = (tgt : Int)) (rx : -2147483648 ≤ x ∧ x < 2147483648)
    (kt : x ≤ 0 → W p l e R s m args below meth c H locs cells slots Q (F0 m tgt ls rest)) (kf : ¬ x ≤ 0 → W p l e R s m args below meth c H locs cells slots Q (F0 m (pc + 3) ls rest)) : W p l e R s m args below meth c H locs cells slots Q (F0 m pc ls (.int (iI x) :: rest)) :=
  lv_if_le hexec hb hdg ht (fun h => kt ((iI_le0 rx).mp h)) (fun h => kf (fun z => h ((iI_le0 rx).mpr z)))
theorem lcm_i (x y : Int64) : lg_cmp x y = iI (if x < y then -1 else if x = y then 0 else 1) := by
  unfold lg_cmp; simp only [gt_iff_lt, Int64.lt_iff_toInt_lt, ← Int64.toInt_inj]; (repeat' split) <;> first | rfl | omega
theorem mk_lcmp (hexec : p.tables.exec = Jvm.exec) (hb : c.code = cc) {x y : Int} (hdg : decode cc pc = .ok (.lcmp, 1)) (rx : -9223372036854775808 ≤ x ∧ x < 9223372036854775808) (ry : -9223372036854775808 ≤ y ∧ y < 9223372036854775808)
    (k : ∀ z : Int, (z < 0 ↔ x < y) → (z = 0 ↔ x = y) → (0 < z ↔ y < x) → (-1 ≤ z ∧ z ≤ 1) → W p l e R s m args below meth c H locs cells slots Q (F0 m (pc + 1) ls (.int (iI z) :: rest))) : W p l e R s m args below meth c H locs cells slots Q (F0 m pc ls (.long (lI y) :: .long (lI x) :: rest)) := by
  refine W.lcmp hexec hb hdg ?_
  rw [lcm_i]
  have h1 := lI_lt rx ry
  have h2 := lI_eq rx ry
  refine k _ ?_ ?_ ?_ ?_
  · by_cases q : x < y
    · simp [h1, q]
    · by_cases q2 : x = y
      · simp [h1, q, h2, q2]
      · simp [h1, q, h2, q2]
  · by_cases q : x < y
    · simp [h1, q]; omega
    · by_cases q2 : x = y
      · simp [h1, q, h2, q2]
      · simp [h1, q, h2, q2]
  · by_cases q : x < y
    · simp [h1, q]; omega
    · by_cases q2 : x = y
      · simp [h1, q, h2, q2]
      · simp [h1, q, h2, q2]; omega
  · by_cases q : x < y
    · simp [h1, q]
    · by_cases q2 : x = y
      · simp [h1, q, h2, q2]
      · simp [h1, q, h2, q2]
theorem mk_iinc (hexec : p.tables.exec = Jvm.exec) (hb : c.code = cc) {i nL k : Nat} {z x w : Int} {lv lv' : List (Nat × Value)} (hdg : decode cc pc = .ok (.iinc i z, 3)) (h : lv_has ls nL lv) (hk : lv[k]? = some (i, .int (iI x))) (hw : x + z = w) (hn : i < nL) (hl : (i, Value.int (iI w)) :: lv.filter (fun q => !(q.1 == i) && !(q.1 + 1 == i && q.2.category == 2)) = lv')
    (kk : ∀ ls' : Array Slot, lv_has ls' nL lv' → W p l e R s m args below meth c H locs cells slots Q (F0 m (pc + 3) ls' rest)) : W p l e R s m args below meth c H locs cells slots Q (F0 m pc ls rest) :=
  lv_iinc (v := iI w) hexec hb hdg h hk (by rw [← hw, ← iI_add]; rfl) hn hl kk
theorem mk_iald (hexec : p.tables.exec = Jvm.exec) (hb : c.code = cc) (hK : va_K D cl tys s) (hW : GW D cl n cel ad A H0 st H locs) (k : Nat) (hk : k < n) {cA : ClassId} {N : Nat} (hc : cel ad (st k) k = .inl (cA, N, .inl (fun j => iI (st k j)))) (t0 : Nat) (ht : tys[t0]? = some (cA, .int)) {i : Int} (j : Nat) (hi : i = (j : Int)) (hj : j < N) (hN : N < 2147483648) (hdg : decode cc pc = .ok (.iaload, 1))
    (kk : W p l e R s m args below meth c H locs cells slots Q (F0 m (pc + 1) ls (.int (iI (st k j)) :: rest))) : W p l e R s m args below meth c H locs cells slots Q (F0 m pc ls (.int (iI i) :: .ref (ad k) :: rest)) := by
  subst hi
  refine va_iald hexec hb hK hW.1 k t0 ((wl_get hk).trans (by rw [hc])) ht (iI_in hj hN) hdg ?_
  rw [iI_clamp (by omega)]
  exact kk
theorem mk_zald (hexec : p.tables.exec = Jvm.exec) (hb : c.code = cc) (hK : va_K D cl tys s) (hW : GW D cl n cel ad A H0 st H locs) (k : Nat) (hk : k < n) {cA : ClassId} {N : Nat} (hc : cel ad (st k) k = .inl (cA, N, .inl (fun j => iI (st k j)))) (t0 : Nat) (ht : tys[t0]? = some (cA, .boolean)) {i : Int} (j : Nat) (hi : i = (j : Int)) (hj : j < N) (hN : N < 2147483648) (hdg : decode cc pc = .ok (.baload, 1))
    (kk : W p l e R s m args below meth c H locs cells slots Q (F0 m (pc + 1) ls (.int (iI (st k j)) :: rest))) : W p l e R s m args below meth c H locs cells slots Q (F0 m pc ls (.int (iI i) :: .ref (ad k) :: rest)) := by
  subst hi
  refine va_zald hexec hb hK hW.1 k t0 ((wl_get hk).trans (by rw [hc])) ht (iI_in hj hN) hdg ?_
  rw [iI_clamp (by omega)]
  exact kk
theorem mk_lald (hexec : p.tables.exec = Jvm.exec) (hb : c.code = cc) (hK : va_K D cl tys s) (hW : GW D cl n cel ad A H0 st H locs) (k : Nat) (hk : k < n) {cA : ClassId} {N : Nat} (hc : cel ad (st k) k = .inl (cA, N, .inr (.inl (fun j => lI (st k j))))) (t0 : Nat) (ht : tys[t0]? = some (cA, .long)) {i : Int} (j : Nat) (hi : i = (j : Int)) (hj : j < N) (hN : N < 2147483648) (hdg : decode cc pc = .ok (.laload, 1))
    (kk : W p l e R s m args below meth c H locs cells slots Q (F0 m (pc + 1) ls (.long (lI (st k j)) :: rest))) : W p l e R s m args below meth c H locs cells slots Q (F0 m pc ls (.int (iI i) :: .ref (ad k) :: rest)) := by
  subst hi
  refine va_lald hexec hb hK hW.1 k t0 ((wl_get hk).trans (by rw [hc])) ht (iI_in hj hN) hdg ?_
  rw [iI_clamp (by omega)]
  exact kk
theorem updI_fn (f : Nat → Int) (j : Nat) (v : Int) : upd (fun q => iI (f q)) j (iI v) = fun q => iI (fnU f j v q) := by
  funext q
  by_cases h : q = j
  · subst h; simp [upd, fnU]
  · simp [upd, fnU, h]
theorem updL_fn (f : Nat → Int) (j : Nat) (v : Int) : vp_updL (fun q => lI (f q)) j (lI v) = fun q => lI (fnU f j v q) := by
  funext q
  by_cases h : q = j
  · subst h; simp [vp_updL, fnU]
  · simp [vp_updL, fnU, h]
theorem narZ {v : Int} (h : v = 0 ∨ v = 1) : vp_nar .boolean (iI v) = iI v := by
  rcases h with rfl | rfl <;> rfl
theorem mk_iast (hexec : p.tables.exec = Jvm.exec) (hb : c.code = cc) (hK : va_K D cl tys s) (hW : GW D cl n cel ad A H0 st H locs) (k : Nat) (hk : k < n) {cA : ClassId} {N : Nat} (hc : ∀ f : Nat → Int, cel ad f k = .inl (cA, N, .inl (fun j => iI (f j)))) (t0 : Nat) (ht : tys[t0]? = some (cA, .int)) {i v : Int} (j : Nat) (hi : i = (j : Int)) (hj : j < N) (hN : N < 2147483648) (hdg : decode cc pc = .ok (.iastore, 1))
    (kk : ∀ (H1 : Heap) (locs1 : List Loc), GW D cl n cel ad A H0 (stC st k (fnU (st k) j v)) H1 locs1 → W p l e R s m args below meth c H1 locs1 cells slots Q (F0 m (pc + 1) ls rest)) : W p l e R s m args below meth c H locs cells slots Q (F0 m pc ls (.int (iI v) :: .int (iI i) :: .ref (ad k) :: rest)) := by
  subst hi
  refine va_iast hexec hb hK hW.1 hW.2.1 hW.2.2 k t0 ((wl_get hk).trans (by rw [hc])) ht (iI_in hj hN) hdg (fun H1 locs1 h1 h2 h3 => ?_)
  rw [iI_clamp (by omega), updI_fn, wl_set (fnU (st k) j v) (hc _)] at h1 h2
  exact kk H1 locs1 ⟨h1, h2, h3⟩
theorem mk_zast (hexec : p.tables.exec = Jvm.exec) (hb : c.code = cc) (hK : va_K D cl tys s) (hW : GW D cl n cel ad A H0 st H locs) (k : Nat) (hk : k < n) {cA : ClassId} {N : Nat} (hc : ∀ f : Nat → Int, cel ad f k = .inl (cA, N, .inl (fun j => iI (f j)))) (t0 : Nat) (ht : tys[t0]? = some (cA, .boolean)) {i v : Int} (j : Nat) (hi : i = (j : Int)) (hj : j < N) (hN : N < 2147483648) (hz : v = 0 ∨ v = 1) (hdg : decode cc pc = .ok (.bastore, 1))
    (kk : ∀ (H1 : Heap) (locs1 : List Loc), GW D cl n cel ad A H0 (stC st k (fnU (st k) j v)) H1 locs1 → W p l e R s m args below meth c H1 locs1 cells slots Q (F0 m (pc + 1) ls rest)) : W p l e R s m args below meth c H locs cells slots Q (F0 m pc ls (.int (iI v) :: .int (iI i) :: .ref (ad k) :: rest)) := by
  subst hi
  refine va_zast hexec hb hK hW.1 hW.2.1 hW.2.2 k t0 ((wl_get hk).trans (by rw [hc])) ht (iI_in hj hN) hdg (fun H1 locs1 h1 h2 h3 => ?_)
  rw [iI_clamp (by omega), narZ hz, updI_fn, wl_set (fnU (st k) j v) (hc _)] at h1 h2
  exact kk H1 locs1 ⟨h1, h2, h3⟩
theorem mk_last (hexec : p.tables.exec = Jvm.exec) (hb : c.code = cc) (hK : va_K D cl tys s) (hW : GW D cl n cel ad A H0 st H locs) (k : Nat) (hk : k < n) {cA : ClassId} {N : Nat} (hc : ∀ f : Nat → Int, cel ad f k = .inl (cA, N, .inr (.inl (fun j => lI (f j))))) (t0 : Nat) (ht : tys[t0]? = some (cA, .long)) {i v : Int} (j : Nat) (hi : i = (j : Int)) (hj : j < N) (hN : N < 2147483648) (hdg : decode cc pc = .ok (.lastore, 1))
    (kk : ∀ (H1 : Heap) (locs1 : List Loc), GW D cl n cel ad A H0 (stC st k (fnU (st k) j v)) H1 locs1 → W p l e R s m args below meth c H1 locs1 cells slots Q (F0 m (pc + 1) ls rest)) : W p l e R s m args below meth c H locs cells slots Q (F0 m pc ls (.long (lI v) :: .int (iI i) :: .ref (ad k) :: rest)) := by
  subst hi
  refine va_last hexec hb hK hW.1 hW.2.1 hW.2.2 k t0 ((wl_get hk).trans (by rw [hc])) ht (iI_in hj hN) hdg (fun H1 locs1 h1 h2 h3 => ?_)
  rw [iI_clamp (by omega), updL_fn, wl_set (fnU (st k) j v) (hc _)] at h1 h2
  exact kk H1 locs1 ⟨h1, h2, h3⟩
theorem mk_get (hexec : p.tables.exec = Jvm.exec) (hb : c.code = cc) {own ref C : String} {T : u_T} {N ci index : Nat} {Ts : List Cond} (hts : ∀ w ∈ Ts, w.before args s = true) (hin : ∀ w ∈ u_ws C T N, w ∈ Ts) (hown : s.vm.findClass own = some m.cls) (hK : va_K D cl tys s) (hW : GW D cl n cel ad A H0 st H locs) (k : Nat) (hk : k < n) {fs : List Value} (hc : cel ad (st k) k = .inr (ci, fs)) (hcl : cl[ci]? = some (C, T, N)) (j : Nat) (hj : j < N) (hlink : (Cond.fieldLink own index ref (T j).2.1 (T j).2.2.1).before args s = true) (hsame : ∀ x, s.fieldFound? (T j).1 (T j).2.1 (T j).2.2.1 = some x → s.fieldFound? ref (T j).2.1 (T j).2.2.1 = some x) {v : Value} (hv : fs[j]? = some v) (hdg : decode cc pc = .ok (.getfield index, 3))
    (kk : W p l e R s m args below meth c H locs cells slots Q (F0 m (pc + 3) ls (v :: rest))) : W p l e R s m args below meth c H locs cells slots Q (F0 m pc ls (.ref (ad k) :: rest)) :=
  va_get hexec hb hts hin hown hK hW.1 k ((wl_get hk).trans (by rw [hc])) hcl j hj hlink hsame hv hdg kk
theorem mk_put (hexec : p.tables.exec = Jvm.exec) (hb : c.code = cc) {own ref C : String} {T : u_T} {N ci index : Nat} {Ts : List Cond} (hts : ∀ w ∈ Ts, w.before args s = true) (hin : ∀ w ∈ u_ws C T N, w ∈ Ts) (ty0 : Nat → FieldType) (hty : ∀ k, k < N → parseFieldDescriptor (T k).2.2.1 = some (ty0 k)) (hnm : ∀ a, a < N → ∀ b, b < N → a ≠ b → (T a).2.1 ≠ (T b).2.1) (hown : s.vm.findClass own = some m.cls) (hK : va_K D cl tys s) (hW : GW D cl n cel ad A H0 st H locs) (k : Nat) (hk : k < n) {fs : List Value} (hc : cel ad (st k) k = .inr (ci, fs)) (hcl : cl[ci]? = some (C, T, N)) (j : Nat) (hj : j < N) (hlink : (Cond.fieldLink own index ref (T j).2.1 (T j).2.2.1).before args s = true) (hsame : ∀ x, s.fieldFound? (T j).1 (T j).2.1 (T j).2.2.1 = some x → s.fieldFound? ref (T j).2.1 (T j).2.2.1 = some x) (hfin : (T j).2.2.2 = false) (hd : parseFieldDescriptor (T j).2.2.1 = some .int) (hl : j < fs.length) {v : Int} (hset : cel ad (fnU (st k) j v) k = .inr (ci, fs.set j (.int (iI v)))) (hdg : decode cc pc = .ok (.putfield index, 3))
    (kk : ∀ (H1 : Heap) (locs1 : List Loc), GW D cl n cel ad A H0 (stC st k (fnU (st k) j v)) H1 locs1 → W p l e R s m args below meth c H1 locs1 cells slots Q (F0 m (pc + 3) ls rest)) : W p l e R s m args below meth c H locs cells slots Q (F0 m pc ls (.int (iI v) :: .ref (ad k) :: rest)) := by
  refine va_put hexec hb hts hin ty0 hty hnm hown hK hW.1 hW.2.1 hW.2.2 k ((wl_get hk).trans (by rw [hc])) hcl j hj hlink hsame hfin (ty := .int) (v := .int (iI v)) hd rfl rfl hl hdg (fun H1 locs1 h1 h2 h3 => ?_)
  rw [wl_set (fnU (st k) j v) hset] at h1 h2
  exact kk H1 locs1 ⟨h1, h2, h3⟩
theorem mk_getN (hexec : p.tables.exec = Jvm.exec) (hb : c.code = cc) {own ref C host : String} {T : u_T} {N ci index : Nat} {Ts : List Cond} (hts : ∀ w ∈ Ts, w.before args s = true) (hin : ∀ w ∈ u_ws C T N, w ∈ Ts) (hown : s.vm.findClass own = some m.cls) (hK : va_K D cl tys s) (hW : GW D cl n cel ad A H0 st H locs) (k : Nat) (hk : k < n) {fs : List Value} (hc : cel ad (st k) k = .inr (ci, fs)) (hcl : cl[ci]? = some (C, T, N)) (j : Nat) (hj : j < N) (hlink : (Cond.fieldLinkNest own index ref (T j).2.1 (T j).2.2.1 host).before args s = true) (hsame : ∀ x, s.fieldFound? (T j).1 (T j).2.1 (T j).2.2.1 = some x → s.fieldFound? ref (T j).2.1 (T j).2.2.1 = some x) {v : Value} (hv : fs[j]? = some v) (hdg : decode cc pc = .ok (.getfield index, 3))
    (kk : W p l e R s m args below meth c H locs cells slots Q (F0 m (pc + 3) ls (v :: rest))) : W p l e R s m args below meth c H locs cells slots Q (F0 m pc ls (.ref (ad k) :: rest)) :=
  va_getN hexec hb hts hin hown hK hW.1 k ((wl_get hk).trans (by rw [hc])) hcl j hj hlink hsame hv hdg kk
theorem mk_putN (hexec : p.tables.exec = Jvm.exec) (hb : c.code = cc) {own ref C host : String} {T : u_T} {N ci index : Nat} {Ts : List Cond} (hts : ∀ w ∈ Ts, w.before args s = true) (hin : ∀ w ∈ u_ws C T N, w ∈ Ts) (ty0 : Nat → FieldType) (hty : ∀ k, k < N → parseFieldDescriptor (T k).2.2.1 = some (ty0 k)) (hnm : ∀ a, a < N → ∀ b, b < N → a ≠ b → (T a).2.1 ≠ (T b).2.1) (hown : s.vm.findClass own = some m.cls) (hK : va_K D cl tys s) (hW : GW D cl n cel ad A H0 st H locs) (k : Nat) (hk : k < n) {fs : List Value} (hc : cel ad (st k) k = .inr (ci, fs)) (hcl : cl[ci]? = some (C, T, N)) (j : Nat) (hj : j < N) (hlink : (Cond.fieldLinkNest own index ref (T j).2.1 (T j).2.2.1 host).before args s = true) (hsame : ∀ x, s.fieldFound? (T j).1 (T j).2.1 (T j).2.2.1 = some x → s.fieldFound? ref (T j).2.1 (T j).2.2.1 = some x) (hfin : (T j).2.2.2 = false) (hd : parseFieldDescriptor (T j).2.2.1 = some .int) (hl : j < fs.length) {v : Int} (hset : cel ad (fnU (st k) j v) k = .inr (ci, fs.set j (.int (iI v)))) (hdg : decode cc pc = .ok (.putfield index, 3))
    (kk : ∀ (H1 : Heap) (locs1 : List Loc), GW D cl n cel ad A H0 (stC st k (fnU (st k) j v)) H1 locs1 → W p l e R s m args below meth c H1 locs1 cells slots Q (F0 m (pc + 3) ls rest)) : W p l e R s m args below meth c H locs cells slots Q (F0 m pc ls (.int (iI v) :: .ref (ad k) :: rest)) := by
  refine va_putN hexec hb hts hin ty0 hty hnm hown hK hW.1 hW.2.1 hW.2.2 k ((wl_get hk).trans (by rw [hc])) hcl j hj hlink hsame hfin (ty := .int) (v := .int (iI v)) hd rfl rfl hl hdg (fun H1 locs1 h1 h2 h3 => ?_)
  rw [wl_set (fnU (st k) j v) hset] at h1 h2
  exact kk H1 locs1 ⟨h1, h2, h3⟩
theorem mk_aald (hexec : p.tables.exec = Jvm.exec) (hb : c.code = cc) (hK : va_K D cl tys s) (hW : GW D cl n cel ad A H0 st H locs) (k : Nat) (hk : k < n) {cA : ClassId} {C : String} {N : Nat} {g : Nat → Option Nat} (hc : cel ad (st k) k = .inl (cA, N, .inr (.inr (.inr (.inr g))))) (t0 : Nat) (ht : tys[t0]? = some (cA, .object C)) {i : Int} (j : Nat) (hi : i = (j : Int)) (hj : j < N) (hN : N < 2147483648) {a : Nat} (hg : g j = some a) (hdg : decode cc pc = .ok (.aaload, 1))
    (kk : W p l e R s m args below meth c H locs cells slots Q (F0 m (pc + 1) ls (.ref a :: rest))) : W p l e R s m args below meth c H locs cells slots Q (F0 m pc ls (.int (iI i) :: .ref (ad k) :: rest)) := by
  subst hi
  refine va_aldq hexec hb hK hW.1 k t0 ((wl_get hk).trans (by rw [hc])) ht (iI_in hj hN) hdg ?_
  rw [iI_clamp (by omega), hg]
  exact kk
theorem mk_pre {B : List Value} (hK : va_K D cl tys s) (hN : NW s) (hW : GW D cl n cel ad A H0 st H locs) : FrameBlind (va_Pc B (mP D cl tys n cel ad st)) ∧ ∀ U : State, U.heap = H → s.WarmedH U.vm → va_Pc B (mP D cl tys n cel ad st) B.toArray U :=
  ⟨mP_blind, fun U hU hWm => ⟨rfl, by show va_P D cl (wl n cel ad st) U.heap; rw [hU]; exact hW.1, va_K.moved hWm.alike hK, hW.2.1.weaken (fun _ _ _ _ => trivial), hN.warm hWm⟩⟩
theorem mk_preV {As : List Value} {C : String} (hK : va_K D cl tys s) (hN : NW s) (hW : GW D cl n cel ad A H0 st H locs) (k : Nat) (hk : k < n) {ci : Nat} {fs : List Value} {q : vw_C} (hc : cel ad (st k) k = .inr (ci, fs)) (hcl : cl[ci]? = some q) (hq : q.1 = C) : PreV s H C (ad k) (va_Pc (.ref (ad k) :: As) (mP D cl tys n cel ad st)) As := by
  subst hq
  exact ⟨mP_blind, va_recv hK hW.1 hcl ((wl_get hk).trans (by rw [hc])), fun U hU hWm => ⟨rfl, by show va_P D cl (wl n cel ad st) U.heap; rw [hU]; exact hW.1, va_K.moved hWm.alike hK, hW.2.1.weaken (fun _ _ _ _ => trivial), hN.warm hWm⟩⟩
theorem mk_preS {As : List Value} (hK : va_K D cl tys s) (hN : NW s) (hW : GW D cl n cel ad A H0 st H locs) : PreS s H (va_Pc As (mP D cl tys n cel ad st)) As :=
  ⟨mP_blind, fun U hU hWm => ⟨rfl, by show va_P D cl (wl n cel ad st) U.heap; rw [hU]; exact hW.1, va_K.moved hWm.alike hK, hW.2.1.weaken (fun _ _ _ _ => trivial), hN.warm hWm⟩⟩
theorem GW.behind {st1 : Nat → Nat → Int} {t : State} {H1 : Heap} {locs1 : List Loc} (hW : GW D cl n cel ad A H0 st H locs) (ht : t.heap = H1) (hB : mB D cl n cel ad st1 t) (hS : va_S A H0 H1 locs1) : GW D cl n cel ad A H0 st1 H1 locs1 := by
  refine ⟨by rw [← ht]; exact hB, ?_, hS⟩
  refine ⟨fun i j x y hi hj hxy => ?_, fun k q hk => ?_⟩
  · obtain ⟨h1, rfl⟩ := wl_of hi
    obtain ⟨h2, rfl⟩ := wl_of hj
    exact hW.2.1.1 i j _ _ (wl_get h1) (wl_get h2) hxy
  · obtain ⟨h1, rfl⟩ := wl_of hk
    exact hW.2.1.2 k (ad k, cel ad (st k) k) (wl_get h1)
theorem GW.all (hW : GW D cl n cel ad A H0 st H locs) : ∀ q, wA n ad q → A q := by
  rintro q ⟨k, hk, rfl⟩
  exact hW.2.1.2 k _ (wl_get hk)
theorem mk_goI {st0 : List Value} {a : Array Value} {post : Int → (Nat → Nat → Int) → Prop} (hr : va_Run p l e R s m args below meth c H locs cells slots 0 0 (F0 m pc ls st0) rest (va_Qi (fun (r : Int32) (u : Nat → Nat → Int) => ∃ z : Int, r = iI z ∧ post z u) (mB D cl n cel ad) (wA n ad) a) (wA n ad)) (hW : GW D cl n cel ad A H0 st H locs)
    (kk : ∀ (z : Int) (st1 : Nat → Nat → Int), post z st1 → ∀ (H1 : Heap) (locs1 : List Loc), GW D cl n cel ad A H0 st1 H1 locs1 → W p l e R s m args below meth c H1 locs1 cells slots Q (F0 m (pc + 3) ls (.int (iI z) :: rest))) : W p l e R s m args below meth c H locs cells slots Q (F0 m pc ls st0) := by
  refine va_calli hr hW.2.2 (fun q _ h => hW.all q h) hW.all (fun r u t H1 locs1 ht hvm hp hB hz hk hS => ?_)
  obtain ⟨z, rfl, hp⟩ := hp
  exact kk z u hp H1 locs1 (hW.behind ht hB hS)
theorem mk_goJ {st0 : List Value} {a : Array Value} {post : Int → (Nat → Nat → Int) → Prop} (hr : va_Run p l e R s m args below meth c H locs cells slots 0 0 (F0 m pc ls st0) rest (va_Ql (fun (r : Int64) (u : Nat → Nat → Int) => ∃ z : Int, r = lI z ∧ post z u) (mB D cl n cel ad) (wA n ad) a) (wA n ad)) (hW : GW D cl n cel ad A H0 st H locs)
    (kk : ∀ (z : Int) (st1 : Nat → Nat → Int), post z st1 → ∀ (H1 : Heap) (locs1 : List Loc), GW D cl n cel ad A H0 st1 H1 locs1 → W p l e R s m args below meth c H1 locs1 cells slots Q (F0 m (pc + 3) ls (.long (lI z) :: rest))) : W p l e R s m args below meth c H locs cells slots Q (F0 m pc ls st0) := by
  refine va_calll hr hW.2.2 (fun q _ h => hW.all q h) hW.all (fun r u t H1 locs1 ht hvm hp hB hz hk hS => ?_)
  obtain ⟨z, rfl, hp⟩ := hp
  exact kk z u hp H1 locs1 (hW.behind ht hB hS)
theorem mk_goV {st0 : List Value} {a : Array Value} {post : (Nat → Nat → Int) → Prop} (hr : va_Run p l e R s m args below meth c H locs cells slots 0 0 (F0 m pc ls st0) rest (va_Qv post (mB D cl n cel ad) (wA n ad) a) (wA n ad)) (hW : GW D cl n cel ad A H0 st H locs)
    (kk : ∀ (st1 : Nat → Nat → Int), post st1 → ∀ (H1 : Heap) (locs1 : List Loc), GW D cl n cel ad A H0 st1 H1 locs1 → W p l e R s m args below meth c H1 locs1 cells slots Q (F0 m (pc + 3) ls rest)) : W p l e R s m args below meth c H locs cells slots Q (F0 m pc ls st0) := by
  refine va_callv hr hW.2.2 (fun q _ h => hW.all q h) hW.all (fun u t H1 locs1 ht hvm hp hB hz hk hS => ?_)
  exact kk u hp H1 locs1 (hW.behind ht hB hS)
theorem mk_mmin (hexec : p.tables.exec = Jvm.exec) (hb : c.code = cc) (hml : c.maxLocals = ls.size) {own : String} {index : Nat} (hown : s.vm.findClass own = some m.cls) (hlink : (Cond.methodLink own index Lib.Math.min.name).before args s = true) (hstat : (Cond.static Lib.Math.min.name).before args s = true) (hini : (Cond.initialized "java/lang/Math").before args s = true) (hcode : (Cond.code Lib.Math.min.name Lib.Math.min.code 2 (some .int)).before args s = true)
    (hframes : 1 ≤ R.frames) (hlocals : (rest.map fun v => v.category).sum + 13 ≤ R.locals) (hc : cells ≤ R.cells) (hs : slots ≤ R.slots) {x y : Int} (hdg : decode cc pc = .ok (.invokestatic index, 3)) (rx : -2147483648 ≤ x ∧ x < 2147483648) (ry : -2147483648 ≤ y ∧ y < 2147483648)
    (kk : W p l e R s m args below meth c H locs cells slots Q (F0 m (pc + 3) ls (.int (iI (min x y)) :: rest))) : W p l e R s m args below meth c H locs cells slots Q (F0 m pc ls (.int (iI y) :: .int (iI x) :: rest)) := by
  refine va_mmin hexec hb hml hown hlink hstat hini hcode hframes hlocals hc hs hdg ?_
  refine W.eq (g2 := F0 m (pc + 3) ls (.int (iI (min x y)) :: rest)) ?_ kk
  congr 3
  by_cases h : y < x
  · rw [if_pos ((iI_lt ry rx).mpr h)]; congr 1; omega
  · rw [if_neg (fun z => h ((iI_lt ry rx).mp z))]; congr 1; omega
theorem mk_mmax (hexec : p.tables.exec = Jvm.exec) (hb : c.code = cc) (hml : c.maxLocals = ls.size) {own : String} {index : Nat} (hown : s.vm.findClass own = some m.cls) (hlink : (Cond.methodLink own index Lib.Math.max.name).before args s = true) (hstat : (Cond.static Lib.Math.max.name).before args s = true) (hini : (Cond.initialized "java/lang/Math").before args s = true) (hcode : (Cond.code Lib.Math.max.name Lib.Math.max.code 2 (some .int)).before args s = true)
    (hframes : 1 ≤ R.frames) (hlocals : (rest.map fun v => v.category).sum + 13 ≤ R.locals) (hc : cells ≤ R.cells) (hs : slots ≤ R.slots) {x y : Int} (hdg : decode cc pc = .ok (.invokestatic index, 3)) (rx : -2147483648 ≤ x ∧ x < 2147483648) (ry : -2147483648 ≤ y ∧ y < 2147483648)
    (kk : W p l e R s m args below meth c H locs cells slots Q (F0 m (pc + 3) ls (.int (iI (max x y)) :: rest))) : W p l e R s m args below meth c H locs cells slots Q (F0 m pc ls (.int (iI y) :: .int (iI x) :: rest)) := by
  refine va_mmax hexec hb hml hown hlink hstat hini hcode hframes hlocals hc hs hdg ?_
  refine W.eq (g2 := F0 m (pc + 3) ls (.int (iI (max x y)) :: rest)) ?_ kk
  congr 3
  by_cases h : x < y
  · rw [if_pos ((iI_lt rx ry).mpr h)]; congr 1; omega
  · rw [if_neg (fun z => h ((iI_lt rx ry).mp z))]; congr 1; omega
end MK2
end
section
abbrev TY (cg : Nat → ClassId) : List (ClassId × FieldType) := [(cg 0, .int), (cg 1, .boolean), (cg 2, .long), (cg 3, .object "GainsReckoner$Ledger")]
abbrev aI (cg : Nat → ClassId) (N : Nat) (f : Nat → Int) : va_E := .inl (cg 0, N, .inl (fun j => iI (f j)))
abbrev aZ (cg : Nat → ClassId) (N : Nat) (f : Nat → Int) : va_E := .inl (cg 1, N, .inl (fun j => iI (f j)))
abbrev aJ (cg : Nat → ClassId) (N : Nat) (f : Nat → Int) : va_E := .inl (cg 2, N, .inr (.inl (fun j => lI (f j))))
def celL (cg : Nat → ClassId) (ad : Nat → Nat) (f : Nat → Int) (k : Nat) : va_E := match k with
  | 0 => .inr (1, [.int (iI (f 0)), .ref (ad 1), .ref (ad 4), .ref (ad 14)])
  | 1 => .inr (4, [.ref (ad 2), .ref (ad 3), .int (iI (f 2))])
  | 2 => aI cg 4 f
  | 3 => aI cg 4 f
  | 4 => .inr (3, [.ref (ad 5), .ref (ad 6), .ref (ad 7), .ref (ad 8), .ref (ad 9), .ref (ad 10), .ref (ad 11), .ref (ad 12), .ref (ad 13), .int (iI (f 9))])
  | 5 => aI cg 60 f
  | 6 => aI cg 60 f
  | 7 => aI cg 60 f
  | 8 => aI cg 60 f
  | 9 => aI cg 60 f
  | 10 => aI cg 60 f
  | 11 => aI cg 60 f
  | 12 => aI cg 60 f
  | 13 => aI cg 60 f
  | 14 => .inr (2, [.ref (ad 15), .ref (ad 16), .ref (ad 17), .ref (ad 18), .ref (ad 19), .ref (ad 20), .int (iI (f 6))])
  | 15 => aI cg 60 f
  | 16 => aI cg 60 f
  | 17 => aI cg 60 f
  | 18 => aI cg 60 f
  | 19 => aI cg 60 f
  | 20 => aI cg 60 f
  | 21 => .inr (0, [.ref (ad 22), .ref (ad 23), .ref (ad 24), .ref (ad 25), .ref (ad 26), .ref (ad 27), .int (iI (f 6))])
  | 22 => aZ cg 60 f
  | 23 => aZ cg 60 f
  | 24 => aI cg 60 f
  | 25 => aI cg 60 f
  | 26 => aI cg 60 f
  | _ => aI cg 60 f
def celX (cg : Nat → ClassId) (ad : Nat → Nat) (f : Nat → Int) (k : Nat) : va_E := match k with
  | 0 => .inr (5, [.ref (ad 1), .ref (ad 8), .ref (ad 72), .int (iI (f 3))])
  | 1 => .inr (0, [.ref (ad 2), .ref (ad 3), .ref (ad 4), .ref (ad 5), .ref (ad 6), .ref (ad 7), .int (iI (f 6))])
  | 2 => aZ cg 60 f
  | 3 => aZ cg 60 f
  | 4 => aI cg 60 f
  | 5 => aI cg 60 f
  | 6 => aI cg 60 f
  | 7 => aI cg 60 f
  | 8 => .inl (cg 3, 3, .inr (.inr (.inr (.inr (fun j => if j = 0 then some (ad 9) else if j = 1 then some (ad 30) else some (ad 51))))))
  | 9 => .inr (1, [.int (iI (f 0)), .ref (ad 10), .ref (ad 13), .ref (ad 23)])
  | 10 => .inr (4, [.ref (ad 11), .ref (ad 12), .int (iI (f 2))])
  | 11 => aI cg 4 f
  | 12 => aI cg 4 f
  | 13 => .inr (3, [.ref (ad 14), .ref (ad 15), .ref (ad 16), .ref (ad 17), .ref (ad 18), .ref (ad 19), .ref (ad 20), .ref (ad 21), .ref (ad 22), .int (iI (f 9))])
  | 14 => aI cg 60 f
  | 15 => aI cg 60 f
  | 16 => aI cg 60 f
  | 17 => aI cg 60 f
  | 18 => aI cg 60 f
  | 19 => aI cg 60 f
  | 20 => aI cg 60 f
  | 21 => aI cg 60 f
  | 22 => aI cg 60 f
  | 23 => .inr (2, [.ref (ad 24), .ref (ad 25), .ref (ad 26), .ref (ad 27), .ref (ad 28), .ref (ad 29), .int (iI (f 6))])
  | 24 => aI cg 60 f
  | 25 => aI cg 60 f
  | 26 => aI cg 60 f
  | 27 => aI cg 60 f
  | 28 => aI cg 60 f
  | 29 => aI cg 60 f
  | 30 => .inr (1, [.int (iI (f 0)), .ref (ad 31), .ref (ad 34), .ref (ad 44)])
  | 31 => .inr (4, [.ref (ad 32), .ref (ad 33), .int (iI (f 2))])
  | 32 => aI cg 4 f
  | 33 => aI cg 4 f
  | 34 => .inr (3, [.ref (ad 35), .ref (ad 36), .ref (ad 37), .ref (ad 38), .ref (ad 39), .ref (ad 40), .ref (ad 41), .ref (ad 42), .ref (ad 43), .int (iI (f 9))])
  | 35 => aI cg 60 f
  | 36 => aI cg 60 f
  | 37 => aI cg 60 f
  | 38 => aI cg 60 f
  | 39 => aI cg 60 f
  | 40 => aI cg 60 f
  | 41 => aI cg 60 f
  | 42 => aI cg 60 f
  | 43 => aI cg 60 f
  | 44 => .inr (2, [.ref (ad 45), .ref (ad 46), .ref (ad 47), .ref (ad 48), .ref (ad 49), .ref (ad 50), .int (iI (f 6))])
  | 45 => aI cg 60 f
  | 46 => aI cg 60 f
  | 47 => aI cg 60 f
  | 48 => aI cg 60 f
  | 49 => aI cg 60 f
  | 50 => aI cg 60 f
  | 51 => .inr (1, [.int (iI (f 0)), .ref (ad 52), .ref (ad 55), .ref (ad 65)])
  | 52 => .inr (4, [.ref (ad 53), .ref (ad 54), .int (iI (f 2))])
  | 53 => aI cg 4 f
  | 54 => aI cg 4 f
  | 55 => .inr (3, [.ref (ad 56), .ref (ad 57), .ref (ad 58), .ref (ad 59), .ref (ad 60), .ref (ad 61), .ref (ad 62), .ref (ad 63), .ref (ad 64), .int (iI (f 9))])
  | 56 => aI cg 60 f
  | 57 => aI cg 60 f
  | 58 => aI cg 60 f
  | 59 => aI cg 60 f
  | 60 => aI cg 60 f
  | 61 => aI cg 60 f
  | 62 => aI cg 60 f
  | 63 => aI cg 60 f
  | 64 => aI cg 60 f
  | 65 => .inr (2, [.ref (ad 66), .ref (ad 67), .ref (ad 68), .ref (ad 69), .ref (ad 70), .ref (ad 71), .int (iI (f 6))])
  | 66 => aI cg 60 f
  | 67 => aI cg 60 f
  | 68 => aI cg 60 f
  | 69 => aI cg 60 f
  | 70 => aI cg 60 f
  | 71 => aI cg 60 f
  | _ => aI cg 5 f
def celM (cg : Nat → ClassId) (ad : Nat → Nat) (f : Nat → Int) (k : Nat) : va_E := match k with
  | 0 => .inr (6, [.int (iI (f 0)), .ref (ad 1), .ref (ad 2), .ref (ad 3), .ref (ad 4), .ref (ad 5), .ref (ad 6), .ref (ad 7), .ref (ad 8), .ref (ad 9), .ref (ad 10), .int (iI (f 11)), .int (iI (f 12)), .ref (ad 11), .ref (ad 12), .ref (ad 13), .ref (ad 14), .ref (ad 15), .ref (ad 16), .ref (ad 17), .ref (ad 18), .ref (ad 19), .int (iI (f 22)), .ref (ad 20), .ref (ad 21), .ref (ad 22), .ref (ad 23), .ref (ad 24), .ref (ad 25), .int (iI (f 29))])
  | 1 => aI cg 60 f
  | 2 => aI cg 60 f
  | 3 => aI cg 60 f
  | 4 => aI cg 60 f
  | 5 => aZ cg 60 f
  | 6 => aZ cg 60 f
  | 7 => aI cg 3 f
  | 8 => aI cg 12 f
  | 9 => aI cg 12 f
  | 10 => aI cg 5 f
  | 11 => aI cg 60 f
  | 12 => aJ cg 60 f
  | 13 => aJ cg 60 f
  | 14 => aJ cg 60 f
  | 15 => aJ cg 60 f
  | 16 => aJ cg 60 f
  | 17 => aJ cg 60 f
  | 18 => aJ cg 60 f
  | 19 => aJ cg 60 f
  | 20 => aI cg 256 f
  | 21 => aI cg 256 f
  | 22 => aI cg 256 f
  | 23 => aJ cg 256 f
  | 24 => aJ cg 256 f
  | _ => aJ cg 256 f
/-- where the cells of the ledger i and of the journal lie in the class's world -/
def embL (i : Nat) (k : Nat) : Nat := if k < 21 then 9 + 21 * i + k else k - 20
theorem embL_lt {i k : Nat} (hi : i < 3) (hk : k < 28) : embL i k < 73 := by unfold embL; split <;> omega
theorem embL_inj {i a b : Nat} (ha : a < 28) (hb : b < 28) (h : embL i a = embL i b) : a = b := by unfold embL at h; split at h <;> split at h <;> omega
theorem embL_cel0 (cg : Nat → ClassId) (ad : Nat → Nat) (f : Nat → Int) : ∀ k, k < 28 → celL cg (fun j => ad (embL 0 j)) f k = celX cg ad f (embL 0 k)
  | 0, _ => rfl
  | 1, _ => rfl
  | 2, _ => rfl
  | 3, _ => rfl
  | 4, _ => rfl
  | 5, _ => rfl
  | 6, _ => rfl
  | 7, _ => rfl
  | 8, _ => rfl
  | 9, _ => rfl
  | 10, _ => rfl
  | 11, _ => rfl
  | 12, _ => rfl
  | 13, _ => rfl
  | 14, _ => rfl
  | 15, _ => rfl
  | 16, _ => rfl
  | 17, _ => rfl
  | 18, _ => rfl
  | 19, _ => rfl
  | 20, _ => rfl
  | 21, _ => rfl
  | 22, _ => rfl
  | 23, _ => rfl
  | 24, _ => rfl
  | 25, _ => rfl
  | 26, _ => rfl
  | 27, _ => rfl
  | k + 28, h => absurd h (by omega)
theorem embL_cel1 (cg : Nat → ClassId) (ad : Nat → Nat) (f : Nat → Int) : ∀ k, k < 28 → celL cg (fun j => ad (embL 1 j)) f k = celX cg ad f (embL 1 k)
  | 0, _ => rfl
  | 1, _ => rfl
  | 2, _ => rfl
  | 3, _ => rfl
  | 4, _ => rfl
  | 5, _ => rfl
  | 6, _ => rfl
  | 7, _ => rfl
  | 8, _ => rfl
  | 9, _ => rfl
  | 10, _ => rfl
  | 11, _ => rfl
  | 12, _ => rfl
  | 13, _ => rfl
  | 14, _ => rfl
  | 15, _ => rfl
  | 16, _ => rfl
  | 17, _ => rfl
  | 18, _ => rfl
  | 19, _ => rfl
  | 20, _ => rfl
  | 21, _ => rfl
  | 22, _ => rfl
  | 23, _ => rfl
  | 24, _ => rfl
  | 25, _ => rfl
  | 26, _ => rfl
  | 27, _ => rfl
  | k + 28, h => absurd h (by omega)
theorem embL_cel2 (cg : Nat → ClassId) (ad : Nat → Nat) (f : Nat → Int) : ∀ k, k < 28 → celL cg (fun j => ad (embL 2 j)) f k = celX cg ad f (embL 2 k)
  | 0, _ => rfl
  | 1, _ => rfl
  | 2, _ => rfl
  | 3, _ => rfl
  | 4, _ => rfl
  | 5, _ => rfl
  | 6, _ => rfl
  | 7, _ => rfl
  | 8, _ => rfl
  | 9, _ => rfl
  | 10, _ => rfl
  | 11, _ => rfl
  | 12, _ => rfl
  | 13, _ => rfl
  | 14, _ => rfl
  | 15, _ => rfl
  | 16, _ => rfl
  | 17, _ => rfl
  | 18, _ => rfl
  | 19, _ => rfl
  | 20, _ => rfl
  | 21, _ => rfl
  | 22, _ => rfl
  | 23, _ => rfl
  | 24, _ => rfl
  | 25, _ => rfl
  | 26, _ => rfl
  | 27, _ => rfl
  | k + 28, h => absurd h (by omega)
end
section
-- numbers: sums, products, rows of days
def sm (f : Nat → Int) : Nat → Int | 0 => 0 | n + 1 => sm f n + f n
def pd (f : Nat → Int) : Nat → Int | 0 => 1 | n + 1 => pd f n * f n
theorem sm_succ (f : Nat → Int) (n : Nat) : sm f (n + 1) = sm f n + f n := rfl
theorem pd_succ (f : Nat → Int) (n : Nat) : pd f (n + 1) = pd f n * f n := rfl
theorem sm_congr {f g : Nat → Int} {n : Nat} (h : ∀ k, k < n → f k = g k) : sm f n = sm g n := by
  induction n with
  | zero => rfl
  | succ n ih => rw [sm, sm, ih (fun k hk => h k (by omega)), h n (by omega)]
theorem pd_congr {f g : Nat → Int} {n : Nat} (h : ∀ k, k < n → f k = g k) : pd f n = pd g n := by
  induction n with
  | zero => rfl
  | succ n ih => rw [pd, pd, ih (fun k hk => h k (by omega)), h n (by omega)]
theorem sm_add (f g : Nat → Int) (n : Nat) : sm (fun k => f k + g k) n = sm f n + sm g n := by
  induction n with
  | zero => rfl
  | succ n ih => simp only [sm, ih]; omega
theorem sm_sub (f g : Nat → Int) (n : Nat) : sm (fun k => f k - g k) n = sm f n - sm g n := by
  induction n with
  | zero => rfl
  | succ n ih => simp only [sm, ih]; omega
theorem sm_zero {f : Nat → Int} {n : Nat} (h : ∀ k, k < n → f k = 0) : sm f n = 0 := by
  induction n with
  | zero => rfl
  | succ n ih => rw [sm, ih (fun k hk => h k (by omega)), h n (by omega)]; rfl
theorem sm_mul (c : Int) (f : Nat → Int) (n : Nat) : sm (fun k => c * f k) n = c * sm f n := by
  induction n with
  | zero => simp [sm]
  | succ n ih => simp only [sm, ih, Int.mul_add]
theorem sm_le {f g : Nat → Int} {n : Nat} (h : ∀ k, k < n → f k ≤ g k) : sm f n ≤ sm g n := by
  induction n with
  | zero => exact Int.le_refl _
  | succ n ih => have h1 := ih (fun k hk => h k (by omega)); have h2 := h n (by omega); simp only [sm]; omega
theorem sm_nn {f : Nat → Int} {n : Nat} (h : ∀ k, k < n → 0 ≤ f k) : 0 ≤ sm f n := by
  induction n with
  | zero => exact Int.le_refl _
  | succ n ih => have h1 := ih (fun k hk => h k (by omega)); have h2 := h n (by omega); simp only [sm]; omega
theorem sm_bd {f : Nat → Int} {c : Int} {n : Nat} (h : ∀ k, k < n → f k ≤ c) : sm f n ≤ n * c := by
  induction n with
  | zero => simp [sm]
  | succ n ih =>
    have h1 := ih (fun k hk => h k (by omega)); have h2 := h n (by omega)
    have h3 : ((n + 1 : Nat) : Int) * c = n * c + c := by push_cast; rw [Int.add_mul, Int.one_mul]
    simp only [sm]; omega
theorem sm_bdl {f : Nat → Int} {c : Int} {n : Nat} (h : ∀ k, k < n → -c ≤ f k) : -(n * c) ≤ sm f n := by
  induction n with
  | zero => simp [sm]
  | succ n ih =>
    have h1 := ih (fun k hk => h k (by omega)); have h2 := h n (by omega)
    have h3 : ((n + 1 : Nat) : Int) * c = n * c + c := by push_cast; rw [Int.add_mul, Int.one_mul]
    simp only [sm]; omega
theorem sm_mono {f : Nat → Int} {m n : Nat} (h : ∀ k, k < n → 0 ≤ f k) (hm : m ≤ n) : sm f m ≤ sm f n := by
  induction n with
  | zero => rw [show m = 0 by omega]; exact Int.le_refl _
  | succ n ih =>
    rcases Nat.lt_or_ge m (n + 1) with q | q
    · have h1 := ih (fun k hk => h k (by omega)) (by omega); have h2 := h n (by omega); simp only [sm]; omega
    · rw [show m = n + 1 by omega]; exact Int.le_refl _
theorem sm_swap (F : Nat → Nat → Int) (a b : Nat) : sm (fun i => sm (fun j => F i j) b) a = sm (fun j => sm (fun i => F i j) a) b := by
  induction a with
  | zero => exact (sm_zero (fun k _ => rfl)).symm
  | succ a ih => simp only [sm, ih, sm_add]
/-- one place alone counts -/
theorem sm_one {f : Nat → Int} {n i : Nat} (hi : i < n) (h : ∀ k, k < n → k ≠ i → f k = 0) : sm f n = f i := by
  induction n with
  | zero => omega
  | succ n ih =>
    rcases Nat.lt_or_ge i n with q | q
    · rw [sm, ih q (fun k hk hn => h k (by omega) hn), h n (by omega) (by omega), Int.add_zero]
    · rw [sm, show i = n by omega, sm_zero (fun k hk => h k (by omega) (by omega)), Int.zero_add]
theorem pd_pos {f : Nat → Int} {n : Nat} (h : ∀ k, k < n → 1 ≤ f k) : 1 ≤ pd f n := by
  induction n with
  | zero => exact Int.le_refl _
  | succ n ih =>
    have h1 := ih (fun k hk => h k (by omega)); have h2 := h n (by omega)
    rw [pd]
    calc (1 : Int) = 1 * 1 := rfl
      _ ≤ pd f n * f n := Int.mul_le_mul h1 h2 (by omega) (by omega)
theorem pd_le {f : Nat → Int} {n : Nat} (h : ∀ k, k < n → 1 ≤ f k ∧ f k ≤ 5) (hn : n ≤ 4) : pd f n ≤ 625 := by
  have key : ∀ m, m ≤ n → pd f m ≤ 5 ^ m := by
    intro m
    induction m with
    | zero => intro _; exact Int.le_refl _
    | succ m ih =>
      intro hm
      have h1 := ih (by omega)
      have h2 := h m (by omega)
      have h3 := pd_pos (n := m) (fun k hk => (h k (by omega)).1)
      rw [pd, Int.pow_succ]
      exact Int.mul_le_mul h1 h2.2 (by omega) (by omega)
  have h1 := key n (Nat.le_refl n)
  have h2 : (5 : Int) ^ n ≤ 625 := by
    rcases (show n = 0 ∨ n = 1 ∨ n = 2 ∨ n = 3 ∨ n = 4 by omega) with rfl | rfl | rfl | rfl | rfl <;> decide
  omega
theorem pd_mul (f g : Nat → Int) (n : Nat) : pd (fun k => f k * g k) n = pd f n * pd g n := by
  induction n with
  | zero => rfl
  | succ n ih => simp only [pd, ih]; rw [Int.mul_assoc, Int.mul_assoc]; congr 1; rw [← Int.mul_assoc, Int.mul_comm (pd g n) (f n), Int.mul_assoc]
/-- how many shares of day b one of day a has become: the splits D, F, m of them -/
def fac (D F : Nat → Int) (m : Nat) (a b : Int) : Int := pd (fun i => if a < D i ∧ D i ≤ b then F i else 1) m
/-- .. of the days behind the last -/
def fla (D F : Nat → Int) (m : Nat) (a : Int) : Int := pd (fun i => if a < D i then F i else 1) m
def SPV (D F : Nat → Int) (m : Nat) : Prop := m ≤ 4 ∧ ∀ i, i < m → (0 ≤ D i ∧ D i < 1825) ∧ 2 ≤ F i ∧ F i ≤ 5
theorem fac_bd {D F : Nat → Int} {m : Nat} (h : SPV D F m) (a b : Int) : 1 ≤ fac D F m a b ∧ fac D F m a b ≤ 625 := by
  have h1 : ∀ k, k < m → 1 ≤ (if a < D k ∧ D k ≤ b then F k else 1) ∧ (if a < D k ∧ D k ≤ b then F k else 1) ≤ 5 := by
    intro k hk; have := h.2 k hk; split <;> omega
  exact ⟨pd_pos (fun k hk => (h1 k hk).1), pd_le h1 h.1⟩
theorem fla_bd {D F : Nat → Int} {m : Nat} (h : SPV D F m) (a : Int) : 1 ≤ fla D F m a ∧ fla D F m a ≤ 625 := by
  have h1 : ∀ k, k < m → 1 ≤ (if a < D k then F k else 1) ∧ (if a < D k then F k else 1) ≤ 5 := by
    intro k hk; have := h.2 k hk; split <;> omega
  exact ⟨pd_pos (fun k hk => (h1 k hk).1), pd_le h1 h.1⟩
theorem fac_fla {D F : Nat → Int} {m : Nat} (h : SPV D F m) (a : Int) : fac D F m a 1825 = fla D F m a := by
  refine pd_congr fun k hk => ?_
  have := h.2 k hk
  by_cases q : a < D k
  · rw [if_pos ⟨q, by omega⟩, if_pos q]
  · rw [if_neg (fun z => q z.1), if_neg q]
theorem fac_mul {D F : Nat → Int} {m : Nat} {a b : Int} (hab : a ≤ b) : fac D F m a b * fla D F m b = fla D F m a := by
  unfold fac fla
  rw [← pd_mul]
  refine pd_congr fun k hk => ?_
  by_cases q : a < D k
  · by_cases q2 : D k ≤ b
    · rw [if_pos ⟨q, q2⟩, if_neg (by omega), if_pos q, Int.mul_one]
    · rw [if_neg (fun z => q2 z.2), if_pos (by omega), if_pos q, Int.one_mul]
  · rw [if_neg (fun z => q z.1), if_neg (by omega), if_neg q, Int.one_mul]
end
section
-- rows: the days of what is live, rising
def IsR (L : Nat → Bool) (dy : Nat → Int) (n R : Nat) (D : Nat → Int) : Prop :=
  (∀ r, r < R → ∃ k, k < n ∧ L k = true ∧ dy k = D r) ∧ (∀ k, k < n → L k = true → ∃ r, r < R ∧ D r = dy k) ∧ ∀ r q, r < q → q < R → D r < D q
theorem IsR.same {L : Nat → Bool} {dy : Nat → Int} {n R R' : Nat} {D D' : Nat → Int} (h : IsR L dy n R D) (h' : IsR L dy n R' D') : ∀ r, r < R → r < R' ∧ D r = D' r := by
  intro r
  induction r using Nat.strongRecOn with
  | _ r ih =>
    intro hr
    obtain ⟨k, hk, hL, e⟩ := h.1 r hr
    obtain ⟨r', hr', e'⟩ := h'.2.1 k hk hL
    have h1 : r ≤ r' := by
      rcases Nat.lt_or_ge r' r with q | q
      · have h2 := (ih r' q (by omega)).2
        have h3 := h.2.2 r' r q hr
        omega
      · exact q
    have hr2 : r < R' := by omega
    obtain ⟨k2, hk2, hL2, e2⟩ := h'.1 r hr2
    obtain ⟨q, hq, eq⟩ := h.2.1 k2 hk2 hL2
    have h4 : r ≤ q := by
      rcases Nat.lt_or_ge q r with z | z
      · have h2 := (ih q z (by omega)).2
        have h3 := h'.2.2 q r z hr2
        omega
      · exact z
    refine ⟨hr2, ?_⟩
    have h5 : D r ≤ D q := by
      rcases Nat.lt_or_ge r q with z | z
      · exact Int.le_of_lt (h.2.2 r q z hq)
      · rw [show r = q by omega]; exact Int.le_refl _
    have h6 : D' r ≤ D' r' := by
      rcases Nat.lt_or_ge r r' with z | z
      · exact Int.le_of_lt (h'.2.2 r r' z hr')
      · rw [show r = r' by omega]; exact Int.le_refl _
    omega
theorem IsR.uniq {L : Nat → Bool} {dy : Nat → Int} {n R R' : Nat} {D D' : Nat → Int} (h : IsR L dy n R D) (h' : IsR L dy n R' D') : R = R' ∧ ∀ r, r < R → D r = D' r := by
  refine ⟨?_, fun r hr => (h.same h' r hr).2⟩
  rcases Nat.lt_or_ge R R' with q | q
  · have := (h'.same h R q).1; omega
  · rcases Nat.lt_or_ge R' R with z | z
    · have := (h.same h' R' z).1; omega
    · omega
theorem IsR.inj {L : Nat → Bool} {dy : Nat → Int} {n R : Nat} {D : Nat → Int} (h : IsR L dy n R D) {r q : Nat} (hr : r < R) (hq : q < R) (e : D r = D q) : r = q := by
  rcases Nat.lt_or_ge r q with z | z
  · have := h.2.2 r q z hq; omega
  · rcases Nat.lt_or_ge q r with y | y
    · have := h.2.2 q r y hr; omega
    · omega
/-- what the live things of a day weigh together -/
def wsum (L : Nat → Bool) (dy w : Nat → Int) (n : Nat) (d : Int) : Int := sm (fun k => if L k = true ∧ dy k = d then w k else 0) n
/-- what the live things up to a day weigh together -/
def wupto (L : Nat → Bool) (dy w : Nat → Int) (n : Nat) (d : Int) : Int := sm (fun k => if L k = true ∧ dy k ≤ d then w k else 0) n
theorem wsum_nn {L : Nat → Bool} {dy w : Nat → Int} {n : Nat} (h : ∀ k, k < n → 0 ≤ w k) (d : Int) : 0 ≤ wsum L dy w n d :=
  sm_nn fun k hk => by have := h k hk; split <;> omega
theorem wsum_le {L : Nat → Bool} {dy w : Nat → Int} {n : Nat} {c : Int} (h : ∀ k, k < n → 0 ≤ w k ∧ w k ≤ c) (d : Int) : wsum L dy w n d ≤ n * c :=
  sm_bd fun k hk => by have := h k hk; split <;> omega
theorem wsum_mono {L : Nat → Bool} {dy w : Nat → Int} {m n : Nat} (h : ∀ k, k < n → 0 ≤ w k) (hm : m ≤ n) (d : Int) : wsum L dy w m d ≤ wsum L dy w n d :=
  sm_mono (fun k hk => by have := h k hk; split <;> omega) hm
/-- the rows give the same sums -/
theorem rows_sum {L : Nat → Bool} {dy : Nat → Int} {n R : Nat} {D : Nat → Int} (h : IsR L dy n R D) (w : Nat → Int) (pr : Int → Bool) :
    sm (fun r => if pr (D r) = true then wsum L dy w n (D r) else 0) R = sm (fun k => if L k = true ∧ pr (dy k) = true then w k else 0) n := by
  have h1 : sm (fun r => if pr (D r) = true then wsum L dy w n (D r) else 0) R = sm (fun r => sm (fun k => if pr (D r) = true ∧ L k = true ∧ dy k = D r then w k else 0) n) R := by
    refine sm_congr fun r _ => ?_
    by_cases q : pr (D r) = true
    · rw [if_pos q]; exact sm_congr fun k _ => by simp [q]
    · rw [if_neg q]; exact (sm_zero fun k _ => by simp [q]).symm
  rw [h1, sm_swap]
  refine sm_congr fun k hk => ?_
  by_cases q : L k = true
  · obtain ⟨r, hr, e⟩ := h.2.1 k hk q
    rw [sm_one hr (fun j hj hn => ?_)]
    · by_cases q2 : pr (dy k) = true
      · rw [if_pos ⟨by rw [e]; exact q2, q, e.symm⟩, if_pos ⟨q, q2⟩]
      · rw [if_neg (fun z => q2 (by rw [← e]; exact z.1)), if_neg (fun z => q2 z.2)]
    · rw [if_neg]
      rintro ⟨-, -, z⟩
      exact hn (h.inj hj hr (by omega))
  · rw [if_neg (fun z => q z.1)]
    exact sm_zero fun r _ => by rw [if_neg (fun z => q z.2.1)]
theorem rows_all {L : Nat → Bool} {dy : Nat → Int} {n R : Nat} {D : Nat → Int} (h : IsR L dy n R D) (w : Nat → Int) : sm (fun r => wsum L dy w n (D r)) R = sm (fun k => if L k = true then w k else 0) n := by
  have := rows_sum h w (fun _ => true)
  simpa using this
theorem sm_cut {f : Nat → Int} {D : Nat → Int} {q R : Nat} {d : Int} (hq : q ≤ R) (h1 : ∀ r, r < q → D r ≤ d) (h2 : ∀ r, q ≤ r → r < R → d < D r) : sm (fun r => if D r ≤ d then f r else 0) R = sm f q := by
  induction R with
  | zero => rw [show q = 0 by omega]; rfl
  | succ R ih =>
    rcases Nat.lt_or_ge q (R + 1) with z | z
    · rw [sm, ih (by omega) (fun r a b => h2 r a (by omega)), if_neg (by have := h2 R (by omega) (by omega); omega), Int.add_zero]
    · rw [show q = R + 1 by omega]
      refine sm_congr fun r hr => ?_
      rw [if_pos (h1 r (by omega))]
/-- how many rows there are up to a day -/
theorem rows_cut {L : Nat → Bool} {dy : Nat → Int} {n R : Nat} {D : Nat → Int} (h : IsR L dy n R D) (d : Int) : ∃ q, q ≤ R ∧ (∀ r, r < q → D r ≤ d) ∧ ∀ r, q ≤ r → r < R → d < D r := by
  have key : ∀ m, m ≤ R → ∃ q, q ≤ m ∧ (∀ r, r < q → D r ≤ d) ∧ ∀ r, q ≤ r → r < m → d < D r := by
    intro m
    induction m with
    | zero => intro _; exact ⟨0, Nat.le_refl 0, fun r hr => absurd hr (by omega), fun r _ hr => absurd hr (by omega)⟩
    | succ m ih =>
      intro hm
      obtain ⟨q, h1, h2, h3⟩ := ih (by omega)
      by_cases z : D m ≤ d
      · have : q = m := by
          rcases Nat.lt_or_ge q m with y | y
          · have a := h3 q (Nat.le_refl q) y
            have b := h.2.2 q m y (by omega)
            omega
          · omega
        subst this
        exact ⟨q + 1, Nat.le_refl _, fun r hr => by
          rcases Nat.lt_or_ge r q with y | y
          · exact h2 r y
          · rw [show r = q by omega]; exact z, fun r a b => absurd b (by omega)⟩
      · exact ⟨q, by omega, h2, fun r a b => by
          rcases Nat.lt_or_ge r m with y | y
          · exact h3 r a y
          · rw [show r = m by omega]; omega⟩
  exact key R (Nat.le_refl R)
theorem rows_upto {L : Nat → Bool} {dy : Nat → Int} {n R : Nat} {D : Nat → Int} (h : IsR L dy n R D) (w : Nat → Int) {d : Int} {q : Nat} (hq : q ≤ R) (h1 : ∀ r, r < q → D r ≤ d) (h2 : ∀ r, q ≤ r → r < R → d < D r) : sm (fun r => wsum L dy w n (D r)) q = wupto L dy w n d := by
  have e := rows_sum h w (fun x => decide (x ≤ d))
  simp only [decide_eq_true_eq] at e
  rw [← sm_cut hq h1 h2, e]
  rfl
theorem sm_ite_sub (c : Nat → Prop) (f g : Nat → Int) (n : Nat) (dc : ∀ k, Decidable (c k)) : sm (fun k => if c k then f k - g k else 0) n = sm (fun k => if c k then f k else 0) n - sm (fun k => if c k then g k else 0) n := by
  rw [← sm_sub]
  refine sm_congr fun k _ => ?_
  split <;> omega
/-- no more rows than live things -/
theorem IsR.le {L : Nat → Bool} {dy : Nat → Int} {n R : Nat} {D : Nat → Int} (h : IsR L dy n R D) : R ≤ n := by
  have h1 : sm (fun r => wsum L dy (fun _ => 1) n (D r)) R = sm (fun k => if L k = true then 1 else 0) n := rows_all h (fun _ => 1)
  have h2 : sm (fun _ => (1 : Int)) R ≤ sm (fun r => wsum L dy (fun _ => 1) n (D r)) R := by
    refine sm_le fun r hr => ?_
    obtain ⟨k, hk, hL, e⟩ := h.1 r hr
    have h3 : (if L k = true ∧ dy k = D r then (1 : Int) else 0) = 1 := if_pos ⟨hL, e⟩
    have h4 : ∀ m, m ≤ n → k < m → 1 ≤ sm (fun k => if L k = true ∧ dy k = D r then (1 : Int) else 0) m := by
      intro m
      induction m with
      | zero => intro _ q; omega
      | succ m ih =>
        intro a b
        rw [sm]
        rcases Nat.lt_or_ge k m with q | q
        · have := ih (by omega) q
          split <;> omega
        · rw [← show k = m by omega, h3]
          have : 0 ≤ sm (fun k => if L k = true ∧ dy k = D r then (1 : Int) else 0) k := sm_nn fun j _ => by split <;> omega
          omega
    exact h4 n (Nat.le_refl n) hk
  have h5 : sm (fun _ => (1 : Int)) R = R := by
    have : ∀ m : Nat, sm (fun _ => (1 : Int)) m = m := by
      intro m
      induction m with
      | zero => rfl
      | succ m ih => rw [sm, ih]; push_cast; rfl
    exact this R
  have h6 : sm (fun k => if L k = true then (1 : Int) else 0) n ≤ n * 1 := sm_bd fun k _ => by split <;> omega
  omega
/-- a new day goes between: the rows behind it move up by one -/
def insD (D : Nat → Int) (q : Nat) (d : Int) : Nat → Int := fun r => if r < q then D r else if r = q then d else D (r - 1)
theorem IsR.ins {L : Nat → Bool} {dy : Nat → Int} {n R q : Nat} {D : Nat → Int} (h : IsR L dy n R D) (hL : L n = true) (hq : q ≤ R) (h1 : ∀ r, r < q → D r < dy n) (h2 : ∀ r, q ≤ r → r < R → dy n < D r) : IsR L dy (n + 1) (R + 1) (insD D q (dy n)) := by
  refine ⟨fun r hr => ?_, fun k hk hLk => ?_, fun r z hrz hz => ?_⟩
  · unfold insD
    by_cases a : r < q
    · rw [if_pos a]
      obtain ⟨k, hk, x, y⟩ := h.1 r (by omega)
      exact ⟨k, by omega, x, y⟩
    · rw [if_neg a]
      by_cases b : r = q
      · rw [if_pos b]; exact ⟨n, by omega, hL, rfl⟩
      · rw [if_neg b]
        obtain ⟨k, hk, x, y⟩ := h.1 (r - 1) (by omega)
        exact ⟨k, by omega, x, y⟩
  · rcases Nat.lt_or_ge k n with a | a
    · obtain ⟨r, hr, e⟩ := h.2.1 k a hLk
      by_cases b : r < q
      · exact ⟨r, by omega, by unfold insD; rw [if_pos b]; exact e⟩
      · exact ⟨r + 1, by omega, by unfold insD; rw [if_neg (by omega), if_neg (by omega)]; exact e⟩
    · exact ⟨q, by omega, by unfold insD; rw [if_neg (by omega), if_pos rfl, show k = n by omega]⟩
  · unfold insD
    by_cases a : z < q
    · rw [if_pos a, if_pos (by omega)]; exact h.2.2 r z hrz (by omega)
    · rw [if_neg a]
      by_cases b : z = q
      · rw [if_pos b, if_pos (by omega)]; exact h1 r (by omega)
      · rw [if_neg b]
        by_cases a2 : r < q
        · rw [if_pos a2]; have := h1 r a2; have := h2 (z - 1) (by omega) (by omega); omega
        · rw [if_neg a2]
          by_cases b2 : r = q
          · rw [if_pos b2]; exact h2 (z - 1) (by omega) (by omega)
          · rw [if_neg b2]; exact h.2.2 (r - 1) (z - 1) (by omega) (by omega)
theorem IsR.old {L : Nat → Bool} {dy : Nat → Int} {n R q : Nat} {D : Nat → Int} (h : IsR L dy n R D) (hL : L n = true → q < R ∧ D q = dy n) : IsR L dy (n + 1) R D := by
  refine ⟨fun r hr => ?_, fun k hk hLk => ?_, h.2.2⟩
  · obtain ⟨k, hk, x, y⟩ := h.1 r hr
    exact ⟨k, by omega, x, y⟩
  · rcases Nat.lt_or_ge k n with a | a
    · exact h.2.1 k a hLk
    · have e : k = n := by omega
      subst e
      exact ⟨q, (hL hLk).1, (hL hLk).2⟩
theorem IsR.congr {L : Nat → Bool} {dy : Nat → Int} {n R : Nat} {D D' : Nat → Int} (h : IsR L dy n R D) (e : ∀ r, r < R → D' r = D r) : IsR L dy n R D' := by
  refine ⟨fun r hr => by rw [e r hr]; exact h.1 r hr, fun k hk hL => ?_, fun r q hrq hq => by rw [e r (by omega), e q hq]; exact h.2.2 r q hrq hq⟩
  obtain ⟨r, hr, x⟩ := h.2.1 k hk hL
  exact ⟨r, hr, by rw [e r hr]; exact x⟩
theorem IsR.zero {L : Nat → Bool} {dy D : Nat → Int} : IsR L dy 0 0 D := ⟨fun r hr => absurd hr (by omega), fun k hk => absurd hk (by omega), fun r q _ hq => absurd hq (by omega)⟩
end
section
-- matching: what is left of buys and sales, the matches, the pool
section MT
variable {D b s c p : Nat → Int} {w : Int} {R : Nat}
/-- what is left of a sale ahead of the buy j, in its own turn -/
def slw (D bl : Nat → Int) (w : Int) (k : Nat) (s0 : Int) : Nat → Int
  | 0 => s0
  | j + 1 => slw D bl w k s0 j - (if k < j ∧ D j - D k ≤ w then min (bl j) (slw D bl w k s0 j) else 0)
/-- what is left of the buys ahead of the sale k's turn -/
def blw (D b s : Nat → Int) (w : Int) : Nat → Nat → Int
  | 0, j => b j - min (b j) (s j)
  | k + 1, j => blw D b s w k j - (if k < j ∧ D j - D k ≤ w then min (blw D b s w k j) (slw D (blw D b s w k) w k (s k - min (b k) (s k)) j) else 0)
def slft (D b s : Nat → Int) (w : Int) (k j : Nat) : Int := slw D (blw D b s w k) w k (s k - min (b k) (s k)) j
/-- what the sale k takes of the buy j -/
def utk (D b s : Nat → Int) (w : Int) (k j : Nat) : Int := if k < j ∧ D j - D k ≤ w then min (blw D b s w k j) (slft D b s w k j) else 0
theorem slft_0 (D b s : Nat → Int) (w : Int) (k : Nat) : slft D b s w k 0 = s k - min (b k) (s k) := rfl
theorem slft_s (D b s : Nat → Int) (w : Int) (k j : Nat) : slft D b s w k (j + 1) = slft D b s w k j - utk D b s w k j := rfl
theorem blw_0 (D b s : Nat → Int) (w : Int) (j : Nat) : blw D b s w 0 j = b j - min (b j) (s j) := rfl
theorem blw_s (D b s : Nat → Int) (w : Int) (k j : Nat) : blw D b s w (k + 1) j = blw D b s w k j - utk D b s w k j := rfl
theorem utk_no {k j : Nat} (h : ¬ (k < j ∧ D j - D k ≤ w)) : utk D b s w k j = 0 := if_neg h
theorem utk_yes {k j : Nat} (h1 : k < j) (h2 : D j - D k ≤ w) : utk D b s w k j = min (blw D b s w k j) (slft D b s w k j) := if_pos ⟨h1, h2⟩
/-- nothing falls below 0 -/
theorem left_nn (hb : ∀ j, 0 ≤ b j) (hs : ∀ j, 0 ≤ s j) : ∀ k, (∀ j, 0 ≤ blw D b s w k j) ∧ ∀ j, 0 ≤ slft D b s w k j := by
  have sl : ∀ k, (∀ j, 0 ≤ blw D b s w k j) → ∀ j, 0 ≤ slft D b s w k j := by
    intro k hk j
    induction j with
    | zero => rw [slft_0]; have := hb k; have := hs k; omega
    | succ j ih =>
      rw [slft_s]
      by_cases q : k < j ∧ D j - D k ≤ w
      · rw [utk_yes q.1 q.2]; have := hk j; omega
      · rw [utk_no q]; omega
  intro k
  induction k with
  | zero =>
    have h0 : ∀ j, 0 ≤ blw D b s w 0 j := fun j => by rw [blw_0]; have := hb j; have := hs j; omega
    exact ⟨h0, sl 0 h0⟩
  | succ k ih =>
    have h0 : ∀ j, 0 ≤ blw D b s w (k + 1) j := by
      intro j
      rw [blw_s]
      by_cases q : k < j ∧ D j - D k ≤ w
      · rw [utk_yes q.1 q.2]; have := ih.1 j; omega
      · rw [utk_no q]; have := ih.1 j; omega
    exact ⟨h0, sl (k + 1) h0⟩
theorem utk_bd (hb : ∀ j, 0 ≤ b j) (hs : ∀ j, 0 ≤ s j) (k j : Nat) : 0 ≤ utk D b s w k j ∧ utk D b s w k j ≤ blw D b s w k j ∧ utk D b s w k j ≤ slft D b s w k j := by
  have h1 := (left_nn (D := D) (w := w) hb hs k).1 j
  have h2 := (left_nn (D := D) (w := w) hb hs k).2 j
  by_cases q : k < j ∧ D j - D k ≤ w
  · rw [utk_yes q.1 q.2]; omega
  · rw [utk_no q]; omega
theorem blw_le (hb : ∀ j, 0 ≤ b j) (hs : ∀ j, 0 ≤ s j) (k j : Nat) : blw D b s w k j ≤ b j - min (b j) (s j) := by
  induction k with
  | zero => rw [blw_0]; exact Int.le_refl _
  | succ k ih => rw [blw_s]; have := (utk_bd (D := D) (w := w) hb hs k j).1; omega
theorem slft_le (hb : ∀ j, 0 ≤ b j) (hs : ∀ j, 0 ≤ s j) (k j : Nat) : slft D b s w k j ≤ s k - min (b k) (s k) := by
  induction j with
  | zero => rw [slft_0]; exact Int.le_refl _
  | succ j ih => rw [slft_s]; have := (utk_bd (D := D) (w := w) hb hs k j).1; omega
/-- a buy isn't touched by sales of its own day and of later ones -/
theorem blw_own {j : Nat} : ∀ k, j ≤ k → blw D b s w k j = blw D b s w j j := by
  intro k
  induction k with
  | zero => intro h; rw [show j = 0 by omega]
  | succ k ih =>
    intro h
    rcases Nat.lt_or_ge k j with q | q
    · rw [show j = k + 1 by omega]
    · rw [blw_s, utk_no (by omega), ih q]; omega
/-- a sale isn't touched by buys up to its own day -/
theorem slft_own {k : Nat} : ∀ j, j ≤ k + 1 → slft D b s w k j = s k - min (b k) (s k) := by
  intro j
  induction j with
  | zero => intro _; exact slft_0 ..
  | succ j ih => intro h; rw [slft_s, utk_no (by omega), ih (by omega)]; omega
/-- behind the first day that lies too far nothing more is taken -/
theorem utk_far {k j : Nat} (hD : ∀ r q, r < q → q < R → D r < D q) (hf : w < D j - D k) (i : Nat) (hji : j ≤ i) (hi : i < R) : utk D b s w k i = 0 := by
  refine utk_no fun h => ?_
  rcases Nat.lt_or_ge j i with q | q
  · have := hD j i q hi; omega
  · rw [show i = j by omega] at h; omega
theorem slft_far {k j : Nat} (hD : ∀ r q, r < q → q < R → D r < D q) (hf : w < D j - D k) : ∀ i, j ≤ i → i ≤ R → slft D b s w k i = slft D b s w k j := by
  intro i
  induction i with
  | zero => intro h _; rw [show j = 0 by omega]
  | succ i ih =>
    intro h hi
    rcases Nat.lt_or_ge i j with q | q
    · rw [show j = i + 1 by omega]
    · rw [slft_s, utk_far hD hf i q (by omega), ih q (by omega)]; omega
/-- a part of money c for q units: f are gone, u come -/
def prt (c q f u : Int) : Int := c * (f + u) / q - c * f / q
theorem prt_0 (c q u : Int) : prt c q 0 u = c * u / q := by unfold prt; rw [Int.mul_zero, Int.zero_ediv, Int.zero_add]; omega
theorem prt_none (c q f : Int) : prt c q f 0 = 0 := by unfold prt; rw [Int.add_zero]; omega
theorem prt_nn {c q f u : Int} (hc : 0 ≤ c) (hq : 0 ≤ q) (hu : 0 ≤ u) : 0 ≤ prt c q f u := by
  unfold prt
  rcases Int.lt_or_eq_of_le hq with h | h
  · have : c * f / q ≤ c * (f + u) / q := Int.ediv_le_ediv h (Int.mul_le_mul_of_nonneg_left (by omega) hc)
    omega
  · rw [← h]; simp
theorem prt_le {c q f u : Int} (hc : 0 ≤ c) (hf : 0 ≤ f) (hu : 0 ≤ u) (hq : f + u ≤ q) : prt c q f u ≤ c := by
  unfold prt
  rcases Int.lt_or_eq_of_le (show 0 ≤ q by omega) with h | h
  · have h1 : c * (f + u) / q ≤ c * q / q := Int.ediv_le_ediv h (Int.mul_le_mul_of_nonneg_left hq hc)
    rw [Int.mul_ediv_cancel _ (by omega)] at h1
    have h2 : 0 ≤ c * f / q := Int.ediv_nonneg (Int.mul_nonneg hc hf) (by omega)
    omega
  · rw [← h]; simp; exact hc
theorem div_le_self {c u q : Int} (hc : 0 ≤ c) (hu : 0 ≤ u) (hq : u ≤ q) : 0 ≤ c * u / q ∧ c * u / q ≤ c := by
  have h1 := prt_nn (f := 0) hc (show 0 ≤ q by omega) hu
  have h2 := prt_le (q := q) (f := 0) hc (Int.le_refl 0) hu (by omega)
  rw [prt_0] at h1 h2
  exact ⟨h1, h2⟩
/-- a match: the row of its sale, of its buy (-1: the pool), kind, units, cost, proceeds -/
abbrev MTup : Type := Nat × Int × Int × Int × Int × Int
def mSame (b s c p : Nat → Int) (k : Nat) : List MTup := if 0 < min (b k) (s k) then [(k, (k : Int), 0, min (b k) (s k), prt (c k) (b k) 0 (min (b k) (s k)), prt (p k) (s k) 0 (min (b k) (s k)))] else []
def mLat (D b s c p : Nat → Int) (w : Int) (k j : Nat) : List MTup := if 0 < utk D b s w k j then [(k, (j : Int), 1, utk D b s w k j, prt (c j) (b j) (b j - blw D b s w k j) (utk D b s w k j), prt (p k) (s k) (s k - slft D b s w k j) (utk D b s w k j))] else []
def mLats (D b s c p : Nat → Int) (w : Int) (k : Nat) : Nat → List MTup
  | 0 => []
  | j + 1 => mLats D b s c p w k j ++ mLat D b s c p w k j
/-- the pool behind row r - 1: units and cost -/
def pU (D b s : Nat → Int) (w : Int) (R : Nat) : Nat → Int
  | 0 => 0
  | r + 1 => pU D b s w R r + blw D b s w R r - slft D b s w r R
def pC (D b s c : Nat → Int) (w : Int) (R : Nat) : Nat → Int
  | 0 => 0
  | r + 1 => (pC D b s c w R r + prt (c r) (b r) (b r - blw D b s w R r) (blw D b s w R r)) - (if 0 < slft D b s w r R then (pC D b s c w R r + prt (c r) (b r) (b r - blw D b s w R r) (blw D b s w R r)) * slft D b s w r R / (pU D b s w R r + blw D b s w R r) else 0)
/-- the cost in the pool when row r's sale comes, and what it takes -/
def hC (D b s c : Nat → Int) (w : Int) (R r : Nat) : Int := pC D b s c w R r + prt (c r) (b r) (b r - blw D b s w R r) (blw D b s w R r)
def tkC (D b s c : Nat → Int) (w : Int) (R r : Nat) : Int := hC D b s c w R r * slft D b s w r R / (pU D b s w R r + blw D b s w R r)
theorem pC_s (D b s c : Nat → Int) (w : Int) (R r : Nat) : pC D b s c w R (r + 1) = hC D b s c w R r - (if 0 < slft D b s w r R then tkC D b s c w R r else 0) := rfl
theorem pU_s (D b s : Nat → Int) (w : Int) (R r : Nat) : pU D b s w R (r + 1) = pU D b s w R r + blw D b s w R r - slft D b s w r R := rfl
def mPool (D b s c p : Nat → Int) (w : Int) (R r : Nat) : List MTup := if 0 < slft D b s w r R then [(r, -1, 2, slft D b s w r R, tkC D b s c w R r, prt (p r) (s r) (s r - slft D b s w r R) (slft D b s w r R))] else []
/-- the matches in the order in which they are told -/
def mAll (D b s c p : Nat → Int) (w : Int) (R : Nat) : Nat → List MTup
  | 0 => []
  | r + 1 => mAll D b s c p w R r ++ (mSame b s c p r ++ (mLats D b s c p w r R ++ mPool D b s c p w R r))
-- how many
def nz (x : Int) : Nat := if 0 < x then 1 else 0
theorem mSame_len (hb : ∀ j, 0 ≤ b j) (hs : ∀ j, 0 ≤ s j) (k : Nat) : (mSame b s c p k).length + nz (b k - min (b k) (s k)) + nz (s k - min (b k) (s k)) ≤ nz (b k) + nz (s k) := by
  have := hb k; have := hs k
  unfold mSame nz
  by_cases q : 0 < min (b k) (s k)
  · rw [if_pos q, if_pos (show 0 < b k by omega), if_pos (show 0 < s k by omega)]
    simp only [List.length_cons, List.length_nil]
    rcases (show b k ≤ s k ∨ s k ≤ b k by omega) with z | z
    · rw [if_neg (show ¬ 0 < b k - min (b k) (s k) by omega)]; split <;> omega
    · rw [if_neg (show ¬ 0 < s k - min (b k) (s k) by omega)]; split <;> omega
  · rw [if_neg q, show min (b k) (s k) = 0 by omega, Int.sub_zero, Int.sub_zero]; simp
theorem mLat_len (hb : ∀ j, 0 ≤ b j) (hs : ∀ j, 0 ≤ s j) (k j : Nat) : (mLat D b s c p w k j).length + nz (blw D b s w (k + 1) j) + nz (slft D b s w k (j + 1)) ≤ nz (blw D b s w k j) + nz (slft D b s w k j) := by
  have h1 := (left_nn (D := D) (w := w) hb hs k).1 j
  have h2 := (left_nn (D := D) (w := w) hb hs k).2 j
  rw [blw_s, slft_s]
  unfold mLat
  by_cases q : k < j ∧ D j - D k ≤ w
  · have e := utk_yes (b := b) (s := s) q.1 q.2
    by_cases z : 0 < utk D b s w k j
    · rw [if_pos z]
      unfold nz
      simp only [List.length_cons, List.length_nil]
      rw [if_pos (show 0 < blw D b s w k j by omega), if_pos (show 0 < slft D b s w k j by omega)]
      rcases (show blw D b s w k j ≤ slft D b s w k j ∨ slft D b s w k j ≤ blw D b s w k j by omega) with y | y
      · rw [if_neg (show ¬ 0 < blw D b s w k j - utk D b s w k j by omega)]; split <;> omega
      · rw [if_neg (show ¬ 0 < slft D b s w k j - utk D b s w k j by omega)]; split <;> omega
    · rw [if_neg z, show utk D b s w k j = 0 by omega, Int.sub_zero, Int.sub_zero]; simp
  · rw [utk_no q, if_neg (Int.lt_irrefl 0), Int.sub_zero, Int.sub_zero]; simp
def nsm (f : Nat → Nat) : Nat → Nat | 0 => 0 | n + 1 => nsm f n + f n
theorem nsm_le {f g : Nat → Nat} {n : Nat} (h : ∀ k, k < n → f k ≤ g k) : nsm f n ≤ nsm g n := by
  induction n with
  | zero => exact Nat.le_refl _
  | succ n ih => have h1 := ih (fun k hk => h k (by omega)); have h2 := h n (by omega); simp only [nsm]; omega
theorem nsm_add (f g : Nat → Nat) (n : Nat) : nsm (fun k => f k + g k) n = nsm f n + nsm g n := by
  induction n with
  | zero => rfl
  | succ n ih => simp only [nsm, ih]; omega
theorem mLats_len (hb : ∀ j, 0 ≤ b j) (hs : ∀ j, 0 ≤ s j) (k m : Nat) : (mLats D b s c p w k m).length + nsm (fun j => nz (blw D b s w (k + 1) j)) m + nz (slft D b s w k m) ≤ nsm (fun j => nz (blw D b s w k j)) m + nz (s k - min (b k) (s k)) := by
  induction m with
  | zero => simp [mLats, nsm, slft_0]
  | succ m ih =>
    have := mLat_len (D := D) (w := w) (c := c) (p := p) hb hs k m
    simp only [mLats, List.length_append, nsm]
    omega
theorem mPool_len (r : Nat) : (mPool D b s c p w R r).length = nz (slft D b s w r R) := by
  unfold mPool nz; split <;> rfl
theorem mAll_len (hb : ∀ j, 0 ≤ b j) (hs : ∀ j, 0 ≤ s j) (r : Nat) : (mAll D b s c p w R r).length + nsm (fun j => nz (blw D b s w r j)) R + nsm (fun k => nz (b k - min (b k) (s k)) + nz (s k - min (b k) (s k))) r ≤ nsm (fun k => nz (b k) + nz (s k)) r + nsm (fun k => nz (s k - min (b k) (s k))) r + nsm (fun j => nz (blw D b s w 0 j)) R := by
  induction r with
  | zero => simp [mAll, nsm]
  | succ r ih =>
    have h1 := mSame_len (c := c) (p := p) hb hs r
    have h2 := mLats_len (D := D) (w := w) (c := c) (p := p) hb hs r R
    have h3 := mPool_len (D := D) (b := b) (s := s) (c := c) (p := p) (w := w) (R := R) r
    simp only [mAll, List.length_append, nsm]
    omega
theorem mAll_le (hb : ∀ j, 0 ≤ b j) (hs : ∀ j, 0 ≤ s j) : (mAll D b s c p w R R).length ≤ nsm (fun k => nz (b k) + nz (s k)) R := by
  have h1 := mAll_len (D := D) (w := w) (c := c) (p := p) (R := R) hb hs R
  have h2 := nsm_add (fun k => nz (b k - min (b k) (s k))) (fun k => nz (s k - min (b k) (s k))) R
  have h3 : nsm (fun j => nz (blw D b s w 0 j)) R = nsm (fun k => nz (b k - min (b k) (s k))) R := rfl
  omega
theorem mAll_pre (r q : Nat) (h : r ≤ q) : (mAll D b s c p w R r).length ≤ (mAll D b s c p w R q).length := by
  induction q with
  | zero => rw [show r = 0 by omega]; exact Nat.le_refl _
  | succ q ih =>
    rcases Nat.lt_or_ge r (q + 1) with z | z
    · have := ih (by omega); simp only [mAll, List.length_append]; omega
    · rw [show r = q + 1 by omega]; exact Nat.le_refl _
theorem mLats_pre (k i j : Nat) (h : i ≤ j) : (mLats D b s c p w k i).length ≤ (mLats D b s c p w k j).length := by
  induction j with
  | zero => rw [show i = 0 by omega]; exact Nat.le_refl _
  | succ j ih =>
    rcases Nat.lt_or_ge i (j + 1) with z | z
    · have := ih (by omega); simp only [mLats, List.length_append]; omega
    · rw [show i = j + 1 by omega]; exact Nat.le_refl _
-- the pool holds what a sale takes
theorem pool_key (hb : ∀ j, 0 ≤ b j) (hs : ∀ j, 0 ≤ s j) {r : Nat} (hr : r < R) : ∀ K, K ≤ R → sm (fun i => b i - s i) (r + 1) ≤ sm (fun i => blw D b s w K i) (r + 1) - sm (fun i => if i < K then slft D b s w i R else s i - min (b i) (s i)) (r + 1) := by
  intro K
  induction K with
  | zero =>
    intro _
    rw [← sm_sub]
    refine sm_le fun i hi => ?_
    rw [blw_0, if_neg (by omega)]; omega
  | succ K ih =>
    intro hK
    have h1 := ih (by omega)
    have eb : sm (fun i => blw D b s w (K + 1) i) (r + 1) = sm (fun i => blw D b s w K i) (r + 1) - sm (fun i => utk D b s w K i) (r + 1) := by
      rw [← sm_sub]; exact sm_congr fun i _ => blw_s ..
    have tele : ∀ m, slft D b s w K m = (s K - min (b K) (s K)) - sm (fun i => utk D b s w K i) m := by
      intro m
      induction m with
      | zero => rw [slft_0]; simp [sm]
      | succ m ih2 => rw [slft_s, ih2, sm]; omega
    by_cases q : K ≤ r
    · have es : sm (fun i => if i < K + 1 then slft D b s w i R else s i - min (b i) (s i)) (r + 1) = sm (fun i => if i < K then slft D b s w i R else s i - min (b i) (s i)) (r + 1) + (slft D b s w K R - (s K - min (b K) (s K))) := by
        have e1 : sm (fun i => (if i < K + 1 then slft D b s w i R else s i - min (b i) (s i)) - (if i < K then slft D b s w i R else s i - min (b i) (s i))) (r + 1) = slft D b s w K R - (s K - min (b K) (s K)) := by
          rw [sm_one (i := K) (by omega) (fun k _ hn => ?_)]
          · rw [if_pos (by omega), if_neg (by omega)]
          · by_cases z : k < K
            · rw [if_pos (by omega), if_pos z]; omega
            · rw [if_neg (by omega), if_neg z]; omega
        rw [sm_sub] at e1
        omega
      have h2 := tele R
      have h3 : sm (fun i => utk D b s w K i) (r + 1) ≤ sm (fun i => utk D b s w K i) R := sm_mono (fun k _ => (utk_bd hb hs K k).1) (by omega)
      rw [eb, es]; omega
    · have es : sm (fun i => if i < K + 1 then slft D b s w i R else s i - min (b i) (s i)) (r + 1) = sm (fun i => if i < K then slft D b s w i R else s i - min (b i) (s i)) (r + 1) := sm_congr fun i hi => by rw [if_pos (by omega), if_pos (by omega)]
      have h3 : sm (fun i => utk D b s w K i) (r + 1) = 0 := sm_zero fun i hi => utk_no (by omega)
      rw [eb, es, h3]; omega
theorem pU_sum (r : Nat) : pU D b s w R r = sm (fun i => blw D b s w R i - slft D b s w i R) r := by
  induction r with
  | zero => rfl
  | succ r ih => rw [pU_s, ih, sm]; omega
theorem pU_nn (hb : ∀ j, 0 ≤ b j) (hs : ∀ j, 0 ≤ s j) (hh : ∀ r, r < R → 0 ≤ sm (fun i => b i - s i) (r + 1)) : ∀ r, r ≤ R → 0 ≤ pU D b s w R r := by
  intro r hr
  cases r with
  | zero => exact Int.le_refl _
  | succ r =>
    have h1 := pool_key (D := D) (w := w) hb hs (show r < R by omega) R (Nat.le_refl R)
    have h2 := hh r (by omega)
    have h3 : sm (fun i => if i < R then slft D b s w i R else s i - min (b i) (s i)) (r + 1) = sm (fun i => slft D b s w i R) (r + 1) := sm_congr fun i hi => by rw [if_pos (by omega)]
    have h4 : sm (blw D b s w R) (r + 1) = sm (fun i => blw D b s w R i) (r + 1) := rfl
    rw [pU_sum, sm_sub]
    rw [h3] at h1
    omega
theorem pU_has (hb : ∀ j, 0 ≤ b j) (hs : ∀ j, 0 ≤ s j) (hh : ∀ r, r < R → 0 ≤ sm (fun i => b i - s i) (r + 1)) {r : Nat} (hr : r < R) : slft D b s w r R ≤ pU D b s w R r + blw D b s w R r := by
  have h1 := pU_nn (D := D) (w := w) hb hs hh (r + 1) hr
  rw [pU_s] at h1
  omega
theorem pC_bd (hb : ∀ j, 0 ≤ b j) (hs : ∀ j, 0 ≤ s j) (hc : ∀ j, 0 ≤ c j) (hh : ∀ r, r < R → 0 ≤ sm (fun i => b i - s i) (r + 1)) : ∀ r, r ≤ R → 0 ≤ pC D b s c w R r ∧ pC D b s c w R r ≤ sm c r := by
  intro r
  induction r with
  | zero => intro _; exact ⟨Int.le_refl _, Int.le_refl _⟩
  | succ r ih =>
    intro hr
    obtain ⟨h1, h2⟩ := ih (by omega)
    have a1 := (left_nn (D := D) (w := w) hb hs R).1 r
    have a2 := blw_le (D := D) (w := w) hb hs R r
    have a3 := hb r
    have a4 := hs r
    have g1 := prt_nn (f := b r - blw D b s w R r) (hc r) (hb r) a1
    have g2 := prt_le (q := b r) (f := b r - blw D b s w R r) (hc r) (by omega) a1 (by omega)
    have e : hC D b s c w R r = pC D b s c w R r + prt (c r) (b r) (b r - blw D b s w R r) (blw D b s w R r) := rfl
    rw [pC_s, sm_succ]
    by_cases q : 0 < slft D b s w r R
    · rw [if_pos q]
      have g3 := div_le_self (c := hC D b s c w R r) (by omega) (Int.le_of_lt q) (pU_has (D := D) (w := w) hb hs hh (show r < R by omega))
      have e2 : tkC D b s c w R r = hC D b s c w R r * slft D b s w r R / (pU D b s w R r + blw D b s w R r) := rfl
      omega
    · rw [if_neg q]; omega
theorem hC_bd (hb : ∀ j, 0 ≤ b j) (hs : ∀ j, 0 ≤ s j) (hc : ∀ j, 0 ≤ c j) (hh : ∀ r, r < R → 0 ≤ sm (fun i => b i - s i) (r + 1)) {r : Nat} (hr : r < R) : 0 ≤ hC D b s c w R r ∧ hC D b s c w R r ≤ sm c (r + 1) := by
  obtain ⟨h1, h2⟩ := pC_bd (D := D) (w := w) hb hs hc hh r (by omega)
  have a1 := (left_nn (D := D) (w := w) hb hs R).1 r
  have a2 := blw_le (D := D) (w := w) hb hs R r
  have a3 := hb r
  have a4 := hs r
  have g1 := prt_nn (f := b r - blw D b s w R r) (hc r) (hb r) a1
  have g2 := prt_le (q := b r) (f := b r - blw D b s w R r) (hc r) (by omega) a1 (by omega)
  have e : hC D b s c w R r = pC D b s c w R r + prt (c r) (b r) (b r - blw D b s w R r) (blw D b s w R r) := rfl
  rw [sm_succ]; omega
end MT
end
section
-- the made list and the told list: the same matches, ranked by the rows of their sales
section RK
def mKey (x : MTup) : Nat := x.1
def eqK (k : Nat) (x : MTup) : Bool := decide (mKey x = k)
def ltK (k : Nat) (x : MTup) : Bool := decide (mKey x < k)
def lsum (g : MTup → Int) : List MTup → Int | [] => 0 | x :: l => g x + lsum g l
theorem lsum_app (g : MTup → Int) (a b : List MTup) : lsum g (a ++ b) = lsum g a + lsum g b := by
  induction a with
  | nil => simp [lsum]
  | cons x a ih => simp only [List.cons_append, lsum, ih]; omega
/-- sorted by the key, the order kept -/
def srt (M : List MTup) : Nat → List MTup | 0 => [] | k + 1 => srt M k ++ M.filter (eqK k)
theorem filt_split (M : List MTup) (k : Nat) : (M.filter (ltK (k + 1))).length = (M.filter (ltK k)).length + (M.filter (eqK k)).length := by
  induction M with
  | nil => rfl
  | cons x M ih =>
    simp only [List.filter_cons, ltK, eqK, decide_eq_true_eq] at ih ⊢
    by_cases a : mKey x < k
    · rw [if_pos (show mKey x < k + 1 by omega), if_pos a, if_neg (show ¬ mKey x = k by omega)]; simp only [List.length_cons]; omega
    · by_cases b : mKey x = k
      · rw [if_pos (show mKey x < k + 1 by omega), if_neg a, if_pos b]; simp only [List.length_cons]; omega
      · rw [if_neg (show ¬ mKey x < k + 1 by omega), if_neg a, if_neg b]; exact ih
theorem filt_sum (g : MTup → Int) (M : List MTup) (k : Nat) : lsum g (M.filter (ltK (k + 1))) = lsum g (M.filter (ltK k)) + lsum g (M.filter (eqK k)) := by
  induction M with
  | nil => rfl
  | cons x M ih =>
    simp only [List.filter_cons, ltK, eqK, decide_eq_true_eq] at ih ⊢
    by_cases a : mKey x < k
    · rw [if_pos (show mKey x < k + 1 by omega), if_pos a, if_neg (show ¬ mKey x = k by omega)]; simp only [lsum]; omega
    · by_cases b : mKey x = k
      · rw [if_pos (show mKey x < k + 1 by omega), if_neg a, if_pos b]; simp only [lsum]; omega
      · rw [if_neg (show ¬ mKey x < k + 1 by omega), if_neg a, if_neg b]; exact ih
theorem filt_none (M : List MTup) : M.filter (ltK 0) = [] := by
  rw [List.filter_eq_nil_iff]; intro x _; simp [ltK]
theorem filt_all {M : List MTup} {R : Nat} (h : ∀ x ∈ M, mKey x < R) : M.filter (ltK R) = M := by
  rw [List.filter_eq_self]; intro x hx; simp [ltK, h x hx]
theorem srt_len (M : List MTup) (k : Nat) : (srt M k).length = (M.filter (ltK k)).length := by
  induction k with
  | zero => rw [filt_none]; rfl
  | succ k ih => rw [srt, List.length_append, ih, filt_split]
theorem srt_sum (g : MTup → Int) (M : List MTup) (k : Nat) : lsum g (srt M k) = lsum g (M.filter (ltK k)) := by
  induction k with
  | zero => rw [filt_none]; rfl
  | succ k ih => rw [srt, lsum_app, ih, filt_sum]
/-- how many come ahead of the match i -/
def rnk (M : List MTup) (k i : Nat) : Nat := (M.filter (ltK k)).length + ((M.take i).filter (eqK k)).length
theorem filt_at (f : MTup → Bool) : ∀ (M : List MTup) (t : Nat), t < (M.filter f).length → ∃ (i : Nat) (x : MTup), M[i]? = some x ∧ f x = true ∧ ((M.take i).filter f).length = t := by
  intro M
  induction M with
  | nil => intro t h; simp at h
  | cons x M ih =>
    intro t h
    by_cases q : f x = true
    · rw [List.filter_cons_of_pos q] at h
      cases t with
      | zero => exact ⟨0, x, rfl, q, rfl⟩
      | succ t =>
        obtain ⟨i, y, h1, h2, h3⟩ := ih t (by simp only [List.length_cons] at h; omega)
        exact ⟨i + 1, y, by rw [List.getElem?_cons_succ]; exact h1, h2, by rw [List.take_succ_cons, List.filter_cons_of_pos q, List.length_cons, h3]⟩
    · rw [List.filter_cons_of_neg q] at h
      obtain ⟨i, y, h1, h2, h3⟩ := ih t h
      exact ⟨i + 1, y, by rw [List.getElem?_cons_succ]; exact h1, h2, by rw [List.take_succ_cons, List.filter_cons_of_neg q, h3]⟩
theorem filt_get (f : MTup → Bool) : ∀ (M : List MTup) (i : Nat) (x : MTup), M[i]? = some x → f x = true → (M.filter f)[((M.take i).filter f).length]? = some x := by
  intro M
  induction M with
  | nil => intro i x h; simp at h
  | cons y M ih =>
    intro i x h hf
    cases i with
    | zero =>
      rw [List.getElem?_cons_zero] at h
      cases h
      rw [List.filter_cons_of_pos hf]; rfl
    | succ i =>
      rw [List.getElem?_cons_succ] at h
      have h1 := ih i x h hf
      by_cases q : f y = true
      · rw [List.take_succ_cons, List.filter_cons_of_pos q, List.filter_cons_of_pos q, List.length_cons, List.getElem?_cons_succ]; exact h1
      · rw [List.take_succ_cons, List.filter_cons_of_neg q, List.filter_cons_of_neg q]; exact h1
theorem srt_get {M : List MTup} : ∀ {R i : Nat} {x : MTup}, M[i]? = some x → mKey x < R → (srt M R)[rnk M (mKey x) i]? = some x := by
  intro R
  induction R with
  | zero => intro i x _ h; omega
  | succ R ih =>
    intro i x hx hR
    rcases Nat.lt_or_ge (mKey x) R with q | q
    · have h1 := ih hx q
      rw [srt, List.getElem?_append_left (List.getElem?_eq_some_iff.mp h1).1]
      exact h1
    · have e : mKey x = R := by omega
      have h1 := filt_get (eqK (mKey x)) M i x hx (by simp [eqK])
      rw [srt, rnk, ← srt_len, e, List.getElem?_append_right (by omega), show (srt M R).length + (List.filter (eqK R) (List.take i M)).length - (srt M R).length = (List.filter (eqK R) (List.take i M)).length by omega]
      rw [e] at h1
      exact h1
theorem srt_from {M : List MTup} : ∀ {R t : Nat}, t < (srt M R).length → ∃ (i : Nat) (x : MTup), M[i]? = some x ∧ mKey x < R ∧ rnk M (mKey x) i = t := by
  intro R
  induction R with
  | zero => intro t h; simp [srt] at h
  | succ R ih =>
    intro t h
    rcases Nat.lt_or_ge t (srt M R).length with q | q
    · obtain ⟨i, x, h1, h2, h3⟩ := ih q
      exact ⟨i, x, h1, by omega, h3⟩
    · rw [srt, List.length_append] at h
      obtain ⟨i, x, h1, h2, h3⟩ := filt_at (eqK R) M (t - (srt M R).length) (by omega)
      have e : mKey x = R := by simpa [eqK] using h2
      exact ⟨i, x, h1, by omega, by rw [rnk, e, h3, ← srt_len]; omega⟩
/-- the count that the reference makes -/
theorem cnt_take (f : MTup → Bool) (M : List MTup) : ∀ n, n ≤ M.length → ((M.take n).filter f).length = sm (fun j => if (M[j]?.map f).getD false = true then 1 else 0) n := by
  intro n
  induction n with
  | zero => intro _; simp [sm]
  | succ n ih =>
    intro h
    have hx : M[n]? = some (M[n]'(by omega)) := List.getElem?_eq_getElem (by omega)
    rw [sm, ← ih (by omega), List.take_succ, List.filter_append, List.length_append, hx]
    simp only [Option.toList_some, Option.map_some, Option.getD_some]
    by_cases q : f (M[n]'(by omega)) = true
    · rw [if_pos q, List.filter_cons_of_pos q]; simp
    · rw [if_neg q, List.filter_cons_of_neg q]; simp
theorem rnk_sm {M : List MTup} {B : Nat → Int} (hB : ∀ j x, M[j]? = some x → B j = (mKey x : Int)) {i : Nat} {x : MTup} (hx : M[i]? = some x) :
    ((rnk M (mKey x) i : Nat) : Int) = sm (fun j => if B j < B i ∨ (B j = B i ∧ j < i) then 1 else 0) M.length := by
  have hi : i < M.length := (List.getElem?_eq_some_iff.mp hx).1
  have e1 := cnt_take (ltK (mKey x)) M M.length (Nat.le_refl _)
  have e2 := cnt_take (eqK (mKey x)) M i (by omega)
  rw [List.take_length] at e1
  have e3 : sm (fun j => if (M[j]?.map (eqK (mKey x))).getD false = true then (1 : Int) else 0) i = sm (fun j => if j < i ∧ (M[j]?.map (eqK (mKey x))).getD false = true then 1 else 0) M.length := by
    have h1 : ∀ n, n ≤ M.length → sm (fun j => if j < i ∧ (M[j]?.map (eqK (mKey x))).getD false = true then (1 : Int) else 0) n = sm (fun j => if (M[j]?.map (eqK (mKey x))).getD false = true then (1 : Int) else 0) (min n i) := by
      intro n
      induction n with
      | zero => intro _; rw [Nat.zero_min]; rfl
      | succ n ih =>
        intro h
        rw [sm, ih (by omega)]
        rcases Nat.lt_or_ge n i with q | q
        · rw [show min (n + 1) i = n + 1 by omega, show min n i = n by omega, sm]
          simp [q]
        · rw [show min (n + 1) i = i by omega, show min n i = i by omega, if_neg (fun z => by omega)]; omega
    rw [h1 _ (Nat.le_refl _), show min M.length i = i by omega]
  unfold rnk
  push_cast
  rw [e1, e2, e3, ← sm_add]
  refine sm_congr fun j hj => ?_
  have hy : M[j]? = some (M[j]'hj) := List.getElem?_eq_getElem hj
  have b1 := hB j _ hy
  have b2 := hB i x hx
  rw [hy]
  simp only [Option.map_some, Option.getD_some, ltK, eqK, decide_eq_true_eq]
  rw [b1, b2]
  by_cases q : mKey (M[j]'hj) < mKey x
  · rw [if_pos q, if_neg (by omega), if_pos (Or.inl (by omega))]; rfl
  · by_cases q2 : mKey (M[j]'hj) = mKey x
    · by_cases q3 : j < i
      · rw [if_neg q, if_pos ⟨q3, q2⟩, if_pos (Or.inr ⟨by omega, q3⟩)]; rfl
      · rw [if_neg q, if_neg (fun z => q3 z.1), if_neg (by omega)]; rfl
    · rw [if_neg q, if_neg (fun z => q2 z.2), if_neg (by omega)]; rfl
end RK
section RM
variable {D b s c p : Nat → Int} {w : Int} {R : Nat}
/-- the reference makes them in three rounds -/
def mSs (b s c p : Nat → Int) : Nat → List MTup | 0 => [] | k + 1 => mSs b s c p k ++ mSame b s c p k
def mLL (D b s c p : Nat → Int) (w : Int) (R : Nat) : Nat → List MTup | 0 => [] | k + 1 => mLL D b s c p w R k ++ mLats D b s c p w k R
def mPP (D b s c p : Nat → Int) (w : Int) (R : Nat) : Nat → List MTup | 0 => [] | k + 1 => mPP D b s c p w R k ++ mPool D b s c p w R k
def mMade (D b s c p : Nat → Int) (w : Int) (R : Nat) : List MTup := mSs b s c p R ++ (mLL D b s c p w R R ++ mPP D b s c p w R R)
theorem key_same {k : Nat} {x : MTup} (h : x ∈ mSame b s c p k) : mKey x = k := by
  unfold mSame at h
  split at h
  · rw [List.mem_singleton.mp h]; rfl
  · cases h
theorem key_lats {k : Nat} {x : MTup} : ∀ {m : Nat}, x ∈ mLats D b s c p w k m → mKey x = k := by
  intro m
  induction m with
  | zero => intro h; cases h
  | succ m ih =>
    intro h
    rcases List.mem_append.mp h with h | h
    · exact ih h
    · unfold mLat at h
      split at h
      · rw [List.mem_singleton.mp h]; rfl
      · cases h
theorem key_pool {k : Nat} {x : MTup} (h : x ∈ mPool D b s c p w R k) : mKey x = k := by
  unfold mPool at h
  split at h
  · rw [List.mem_singleton.mp h]; rfl
  · cases h
theorem filt_own {l : List MTup} {k : Nat} (h : ∀ x ∈ l, mKey x = k) (q : Nat) : l.filter (eqK q) = if q = k then l else [] := by
  by_cases e : q = k
  · rw [if_pos e, List.filter_eq_self]; intro x hx; simp [eqK, h x hx, e]
  · rw [if_neg e, List.filter_eq_nil_iff]; intro x hx; simp [eqK, h x hx]; omega
theorem filt_rounds {F : Nat → List MTup} {G : Nat → List MTup} (h0 : G 0 = []) (hs : ∀ k, G (k + 1) = G k ++ F k) (hk : ∀ k x, x ∈ F k → mKey x = k) (q : Nat) : ∀ n, (G n).filter (eqK q) = if q < n then F q else [] := by
  intro n
  induction n with
  | zero => rw [h0]; rfl
  | succ n ih =>
    rw [hs, List.filter_append, ih, filt_own (hk n)]
    by_cases a : q < n
    · rw [if_pos a, if_neg (by omega), if_pos (by omega), List.append_nil]
    · by_cases b : q = n
      · rw [if_neg a, if_pos b, if_pos (by omega), List.nil_append, b]
      · rw [if_neg a, if_neg b, if_neg (by omega)]; rfl
theorem key_rounds {F : Nat → List MTup} {G : Nat → List MTup} (h0 : G 0 = []) (hs : ∀ k, G (k + 1) = G k ++ F k) (hk : ∀ k x, x ∈ F k → mKey x = k) : ∀ n x, x ∈ G n → mKey x < n := by
  intro n
  induction n with
  | zero => intro x h; rw [h0] at h; cases h
  | succ n ih =>
    intro x h
    rw [hs] at h
    rcases List.mem_append.mp h with h | h
    · have := ih x h; omega
    · have := hk n x h; omega
theorem made_key {x : MTup} (h : x ∈ mMade D b s c p w R) : mKey x < R := by
  rcases List.mem_append.mp h with h | h
  · exact key_rounds (F := mSame b s c p) (G := mSs b s c p) rfl (fun _ => rfl) (fun k x h => key_same h) R x h
  · rcases List.mem_append.mp h with h | h
    · exact key_rounds (F := fun k => mLats D b s c p w k R) (G := mLL D b s c p w R) rfl (fun _ => rfl) (fun k x h => key_lats h) R x h
    · exact key_rounds (F := mPool D b s c p w R) (G := mPP D b s c p w R) rfl (fun _ => rfl) (fun k x h => key_pool h) R x h
theorem made_filt {q : Nat} (h : q < R) : (mMade D b s c p w R).filter (eqK q) = mSame b s c p q ++ (mLats D b s c p w q R ++ mPool D b s c p w R q) := by
  unfold mMade
  rw [List.filter_append, List.filter_append]
  rw [filt_rounds (F := mSame b s c p) (G := mSs b s c p) rfl (fun _ => rfl) (fun k x h => key_same h) q R, filt_rounds (F := fun k => mLats D b s c p w k R) (G := mLL D b s c p w R) rfl (fun _ => rfl) (fun k x h => key_lats h) q R, filt_rounds (F := mPool D b s c p w R) (G := mPP D b s c p w R) rfl (fun _ => rfl) (fun k x h => key_pool h) q R, if_pos h, if_pos h, if_pos h]
/-- told is made, sorted -/
theorem told_made : ∀ r, r ≤ R → mAll D b s c p w R r = srt (mMade D b s c p w R) r := by
  intro r
  induction r with
  | zero => intro _; rfl
  | succ r ih => intro h; rw [mAll, srt, ih (by omega), made_filt (by omega)]
theorem made_len : (mMade D b s c p w R).length = (mAll D b s c p w R R).length := by
  rw [told_made R (Nat.le_refl R), srt_len, filt_all (fun x h => made_key h)]
theorem made_sum (g : MTup → Int) : lsum g (mMade D b s c p w R) = lsum g (mAll D b s c p w R R) := by
  rw [told_made R (Nat.le_refl R), srt_sum, filt_all (fun x h => made_key h)]
end RM
end
section
-- the book: what the trades are, what a state keeps
def Fr (S : List Nat) (st st1 : Nat → Nat → Int) : Prop := ∀ k, k ∉ S → st1 k = st k
theorem Fr.rf {S : List Nat} {st : Nat → Nat → Int} : Fr S st st := fun _ _ => rfl
theorem Fr.tr {S S' : List Nat} {a b c : Nat → Nat → Int} (h : Fr S a b) (h' : Fr S' b c) (T : List Nat) (hT : ∀ k, k ∈ S ++ S' → k ∈ T) : Fr T a c := fun k hk => (h' k (fun z => hk (hT k (List.mem_append_right _ z)))).trans (h k (fun z => hk (hT k (List.mem_append_left _ z))))
theorem Fr.up {S T : List Nat} {a b : Nat → Nat → Int} (h : Fr S a b) (hT : ∀ k, k ∈ S → k ∈ T) : Fr T a b := fun k hk => h k (fun z => hk (hT k z))
theorem Fr.st {S : List Nat} {a b : Nat → Nat → Int} (h : Fr S a b) {k : Nat} {f : Nat → Int} (hk : k ∈ S) : Fr S a (stC b k f) := fun j hj => (stC_ne (fun e => hj (by rw [e]; exact hk))).trans (h j hj)
/-- the trades are in their ranges -/
def JV (sa ca sh dy ct mo : Nat → Int) (n : Nat) : Prop := n ≤ 60 ∧ ∀ k, k < n → (sa k = 0 ∨ sa k = 1) ∧ (ca k = 0 ∨ ca k = 1) ∧ (0 ≤ sh k ∧ sh k < 3) ∧ (0 ≤ dy k ∧ dy k < 1825) ∧ (1 ≤ ct k ∧ ct k ≤ 1000) ∧ (0 ≤ mo k ∧ mo k ≤ 1000000)
def lvb (ca sh : Nat → Int) (v : Int) : Nat → Bool := fun k => decide (sh k = v ∧ ca k = 0)
theorem lvb_t {ca sh : Nat → Int} {v : Int} {k : Nat} : lvb ca sh v k = true ↔ sh k = v ∧ ca k = 0 := by simp [lvb]
/-- of buys, of sales -/
def wB (sa f : Nat → Int) : Nat → Int := fun k => if sa k = 0 then f k else 0
def wS (sa f : Nat → Int) : Nat → Int := fun k => if sa k = 0 then 0 else f k
/-- the units of a trade -/
def uni (ct dy D F : Nat → Int) (m : Nat) : Nat → Int := fun k => ct k * fla D F m (dy k)
theorem uni_bd {sa ca sh dy ct mo D F : Nat → Int} {n m : Nat} (hJ : JV sa ca sh dy ct mo n) (hS : SPV D F m) {k : Nat} (hk : k < n) : 1 ≤ uni ct dy D F m k ∧ uni ct dy D F m k ≤ 625000 := by
  obtain ⟨-, -, -, -, h, -⟩ := hJ.2 k hk
  have h2 := fla_bd hS (dy k)
  refine ⟨?_, ?_⟩
  · calc (1 : Int) = 1 * 1 := rfl
      _ ≤ ct k * fla D F m (dy k) := Int.mul_le_mul h.1 h2.1 (by omega) (by omega)
  · calc ct k * fla D F m (dy k) ≤ 1000 * 625 := Int.mul_le_mul h.2 h2.2 (by omega) (by omega)
      _ = 625000 := rfl
theorem wB_bd {sa f : Nat → Int} {n : Nat} {c : Int} (h : ∀ k, k < n → 0 ≤ f k ∧ f k ≤ c) {k : Nat} (hk : k < n) : 0 ≤ wB sa f k ∧ wB sa f k ≤ c := by
  have := h k hk; unfold wB; split <;> omega
theorem wS_bd {sa f : Nat → Int} {n : Nat} {c : Int} (h : ∀ k, k < n → 0 ≤ f k ∧ f k ≤ c) {k : Nat} (hk : k < n) : 0 ≤ wS sa f k ∧ wS sa f k ≤ c := by
  have := h k hk; unfold wS; split <;> omega
end
section
-- what a ledger holds
def addM (st : Nat → Nat → Int) (M : Nat) (k so bo u c p : Int) : Nat → Nat → Int :=
  stC (stC (stC (stC (stC (stC (stC st 15 (fnU (st 15) M k)) 16 (fnU (st 16) M so)) 17 (fnU (st 17) M bo)) 18 (fnU (st 18) M u)) 19 (fnU (st 19) M c)) 20 (fnU (st 20) M p)) 14 (fnU (st 14) 6 ((M : Int) + 1))
def bD (D : Nat → Int) (f : Int) : Int := if f < 0 then -1 else D f.toNat
/-- the matches' rows hold this list -/
def AL (st : Nat → Nat → Int) (D : Nat → Int) (l : List MTup) : Prop := st 14 6 = l.length ∧ ∀ i x, l[i]? = some x → st 15 i = x.2.2.1 ∧ st 16 i = D x.1 ∧ st 17 i = bD D x.2.1 ∧ st 18 i = x.2.2.2.1 ∧ st 19 i = x.2.2.2.2.1 ∧ st 20 i = x.2.2.2.2.2
theorem AL.fr {st st1 : Nat → Nat → Int} {D : Nat → Int} {l : List MTup} {S : List Nat} (h : AL st D l) (hf : Fr S st st1) (hS : ∀ k, k ∈ S → k < 14 ∨ 20 < k) : AL st1 D l := by
  have e : ∀ k, 14 ≤ k → k ≤ 20 → st1 k = st k := fun k h1 h2 => hf k (fun z => by have := hS k z; omega)
  refine ⟨by rw [e 14 (by omega) (by omega)]; exact h.1, fun i x hx => ?_⟩
  rw [e 15 (by omega) (by omega), e 16 (by omega) (by omega), e 17 (by omega) (by omega), e 18 (by omega) (by omega), e 19 (by omega) (by omega), e 20 (by omega) (by omega)]
  exact h.2 i x hx
theorem AL.D {st : Nat → Nat → Int} {D D' : Nat → Int} {l : List MTup} {R : Nat} (h : AL st D l) (hl : ∀ x ∈ l, x.1 < R ∧ x.2.1 < R) (e : ∀ r, r < R → D r = D' r) : AL st D' l := by
  refine ⟨h.1, fun i x hx => ?_⟩
  obtain ⟨h1, h2, h3, h4⟩ := h.2 i x hx
  obtain ⟨g1, g2⟩ := hl x (List.mem_of_getElem? hx)
  refine ⟨h1, by rw [h2, e _ g1], ?_, h4⟩
  rw [h3]; unfold bD
  split
  · rfl
  · rw [e _ (by omega)]
theorem addM_at (st : Nat → Nat → Int) (M : Nat) (k so bo u c p : Int) (i : Nat) : addM st M k so bo u c p 15 i = fnU (st 15) M k i ∧ addM st M k so bo u c p 16 i = fnU (st 16) M so i ∧ addM st M k so bo u c p 17 i = fnU (st 17) M bo i ∧ addM st M k so bo u c p 18 i = fnU (st 18) M u i ∧ addM st M k so bo u c p 19 i = fnU (st 19) M c i ∧ addM st M k so bo u c p 20 i = fnU (st 20) M p i ∧ addM st M k so bo u c p 14 6 = (M : Int) + 1 := ⟨rfl, rfl, rfl, rfl, rfl, rfl, rfl⟩
theorem addM_fr (st : Nat → Nat → Int) (M : Nat) (k so bo u c p : Int) : Fr [14, 15, 16, 17, 18, 19, 20] st (addM st M k so bo u c p) := by
  intro j hj
  simp only [List.mem_cons, List.not_mem_nil, or_false, not_or] at hj
  unfold addM
  rw [stC_ne (by omega), stC_ne (by omega), stC_ne (by omega), stC_ne (by omega), stC_ne (by omega), stC_ne (by omega), stC_ne (by omega)]
theorem AL.add {st : Nat → Nat → Int} {D : Nat → Int} {l : List MTup} (h : AL st D l) (x : MTup) {k so bo u c p : Int} (h1 : k = x.2.2.1) (h2 : so = D x.1) (h3 : bo = bD D x.2.1) (h4 : u = x.2.2.2.1) (h5 : c = x.2.2.2.2.1) (h6 : p = x.2.2.2.2.2) : AL (addM st l.length k so bo u c p) D (l ++ [x]) := by
  refine ⟨?_, fun i y hy => ?_⟩
  · rw [(addM_at st l.length k so bo u c p 0).2.2.2.2.2.2, List.length_append, List.length_singleton]; push_cast; rfl
  · obtain ⟨a1, a2, a3, a4, a5, a6, -⟩ := addM_at st l.length k so bo u c p i
    rw [a1, a2, a3, a4, a5, a6]
    rcases Nat.lt_or_ge i l.length with q | q
    · rw [List.getElem?_append_left q] at hy
      rw [fnU_ne (by omega), fnU_ne (by omega), fnU_ne (by omega), fnU_ne (by omega), fnU_ne (by omega), fnU_ne (by omega)]
      exact h.2 i y hy
    · have hi : i < (l ++ [x]).length := (List.getElem?_eq_some_iff.mp hy).1
      rw [List.length_append, List.length_singleton] at hi
      have e : i = l.length := by omega
      subst e
      rw [List.getElem?_append_right (Nat.le_refl _), Nat.sub_self] at hy
      cases hy
      rw [fnU_eq, fnU_eq, fnU_eq, fnU_eq, fnU_eq, fnU_eq]
      exact ⟨h1, h2, h3, h4, h5, h6⟩
/-- the sheet's rows hold these numbers -/
def RC (st : Nat → Nat → Int) (R : Nat) (D b c s p : Nat → Int) : Prop := st 4 9 = R ∧ ∀ r, r < R → st 5 r = D r ∧ st 6 r = b r ∧ st 8 r = c r ∧ st 9 r = s r ∧ st 11 r = p r
theorem RC.fr {st st1 : Nat → Nat → Int} {R : Nat} {D b c s p : Nat → Int} {S : List Nat} (h : RC st R D b c s p) (hf : Fr S st st1) (h4 : 4 ∉ S) (h5 : 5 ∉ S) (h6 : 6 ∉ S) (h8 : 8 ∉ S) (h9 : 9 ∉ S) (h11 : 11 ∉ S) : RC st1 R D b c s p := by
  refine ⟨by rw [hf 4 h4]; exact h.1, fun r hr => ?_⟩
  rw [hf 5 h5, hf 6 h6, hf 8 h8, hf 9 h9, hf 11 h11]
  exact h.2 r hr
def RN (R : Nat) (D b c s p : Nat → Int) : Prop := R ≤ 60 ∧ (∀ r q, r < q → q < R → D r < D q) ∧ (∀ r, r < R → 0 ≤ D r ∧ D r < 1825) ∧ (∀ j, 0 ≤ b j ∧ b j ≤ 37500000) ∧ (∀ j, 0 ≤ s j ∧ s j ≤ 37500000) ∧ (∀ j, 0 ≤ c j ∧ c j ≤ 60000000) ∧ (∀ j, 0 ≤ p j ∧ p j ≤ 60000000) ∧ (∀ r, r < R → 0 ≤ sm (fun i => b i - s i) (r + 1)) ∧ nsm (fun k => nz (b k) + nz (s k)) R ≤ 60 ∧ sm c R ≤ 60000000 ∧ sm p R ≤ 60000000
theorem nz_sm {f g : Nat → Int} {n : Nat} (h : ∀ k, k < n → 0 ≤ f k ∧ 0 ≤ g k ∧ (0 < f k → 1 ≤ g k)) : (nz (sm f n) : Int) ≤ sm g n ∧ 0 ≤ sm f n := by
  induction n with
  | zero => exact ⟨Int.le_refl _, Int.le_refl _⟩
  | succ n ih =>
    obtain ⟨h1, h2⟩ := ih (fun k hk => h k (by omega))
    obtain ⟨a, b, d⟩ := h n (by omega)
    rw [sm_succ, sm_succ]
    refine ⟨?_, by omega⟩
    unfold nz at h1 ⊢
    by_cases q : 0 < f n
    · have := d q
      split at h1 <;> split <;> push_cast at * <;> omega
    · rw [show f n = 0 by omega, Int.add_zero]; omega
theorem nsm_sm (f : Nat → Nat) (n : Nat) : ((nsm f n : Nat) : Int) = sm (fun k => (f k : Int)) n := by
  induction n with
  | zero => rfl
  | succ n ih => rw [nsm, sm_succ, ← ih]; push_cast; rfl
/-- bought, cost, sold, proceeds of a day of the share -/
def qB (L : Nat → Bool) (sa dy u : Nat → Int) (n : Nat) (D : Nat → Int) : Nat → Int := fun r => wsum L dy (wB sa u) n (D r)
def qS (L : Nat → Bool) (sa dy u : Nat → Int) (n : Nat) (D : Nat → Int) : Nat → Int := fun r => wsum L dy (wS sa u) n (D r)
/-- the holding of the share at the end of a day, in units -/
def hold (L : Nat → Bool) (sa dy u : Nat → Int) (n : Nat) (d : Int) : Int := wupto L dy (wB sa u) n d - wupto L dy (wS sa u) n d
theorem RN_of {sa ca sh dy ct mo SD SF : Nat → Int} {n m R : Nat} {v : Int} {D : Nat → Int} (hJ : JV sa ca sh dy ct mo n) (hS : SPV SD SF m) (hR : IsR (lvb ca sh v) dy n R D) (hh : ∀ d, 0 ≤ hold (lvb ca sh v) sa dy (uni ct dy SD SF m) n d) :
    RN R D (qB (lvb ca sh v) sa dy (uni ct dy SD SF m) n D) (qB (lvb ca sh v) sa dy mo n D) (qS (lvb ca sh v) sa dy (uni ct dy SD SF m) n D) (qS (lvb ca sh v) sa dy mo n D) := by
  have hn := hJ.1
  have hu : ∀ k, k < n → 0 ≤ uni ct dy SD SF m k ∧ uni ct dy SD SF m k ≤ 625000 := fun k hk => by have := uni_bd hJ hS hk; omega
  have hm : ∀ k, k < n → 0 ≤ mo k ∧ mo k ≤ 1000000 := fun k hk => (hJ.2 k hk).2.2.2.2.2
  have big : ∀ (x : Nat → Int) (c : Int), 0 ≤ c → (∀ k, k < n → 0 ≤ x k ∧ x k ≤ c) → ∀ j, 0 ≤ wsum (lvb ca sh v) dy x n (D j) ∧ wsum (lvb ca sh v) dy x n (D j) ≤ 60 * c := by
    intro x c hc hx j
    have h1 := wsum_nn (L := lvb ca sh v) (dy := dy) (fun k hk => (hx k hk).1) (D j)
    have h2 := wsum_le (L := lvb ca sh v) (dy := dy) hx (D j)
    have h3 : (n : Int) * c ≤ 60 * c := Int.mul_le_mul_of_nonneg_right (by omega) hc
    exact ⟨h1, by omega⟩
  have all : ∀ (x : Nat → Int), (∀ k, k < n → 0 ≤ x k ∧ x k ≤ 1000000) → sm (fun r => wsum (lvb ca sh v) dy x n (D r)) R ≤ 60000000 := by
    intro x hx
    rw [rows_all hR]
    have h1 : sm (fun k => if lvb ca sh v k = true then x k else 0) n ≤ n * 1000000 := sm_bd fun k hk => by have := hx k hk; split <;> omega
    omega
  refine ⟨Nat.le_trans hR.le hn, hR.2.2, fun r hr => ?_, ?_, ?_, ?_, ?_, fun r hr => ?_, ?_, ?_, ?_⟩
  · obtain ⟨k, hk, -, e⟩ := hR.1 r hr
    have := (hJ.2 k hk).2.2.2.1
    omega
  · exact fun j => big _ 625000 (by omega) (fun k hk => wB_bd hu hk) j
  · exact fun j => big _ 625000 (by omega) (fun k hk => wS_bd hu hk) j
  · exact fun j => big _ 1000000 (by omega) (fun k hk => wB_bd hm hk) j
  · exact fun j => big _ 1000000 (by omega) (fun k hk => wS_bd hm hk) j
  · have h1 : ∀ i, i < r + 1 → D i ≤ D r := fun i hi => by
      rcases Nat.lt_or_ge i r with q | q
      · have := hR.2.2 i r q hr; omega
      · rw [show i = r by omega]; exact Int.le_refl _
    have h2 : ∀ i, r + 1 ≤ i → i < R → D r < D i := fun i a b => hR.2.2 r i (by omega) b
    have e1 := rows_upto hR (wB sa (uni ct dy SD SF m)) (d := D r) (q := r + 1) (by omega) h1 h2
    have e2 := rows_upto hR (wS sa (uni ct dy SD SF m)) (d := D r) (q := r + 1) (by omega) h1 h2
    have h3 := hh (D r)
    rw [sm_sub]
    show 0 ≤ sm (fun r => wsum (lvb ca sh v) dy (wB sa (uni ct dy SD SF m)) n (D r)) (r + 1) - sm (fun r => wsum (lvb ca sh v) dy (wS sa (uni ct dy SD SF m)) n (D r)) (r + 1)
    rw [e1, e2]; exact h3
  · have e : ((nsm (fun k => nz (qB (lvb ca sh v) sa dy (uni ct dy SD SF m) n D k) + nz (qS (lvb ca sh v) sa dy (uni ct dy SD SF m) n D k)) R : Nat) : Int) ≤ 60 := by
      rw [nsm_sm]
      have h1 : sm (fun k => ((nz (qB (lvb ca sh v) sa dy (uni ct dy SD SF m) n D k) + nz (qS (lvb ca sh v) sa dy (uni ct dy SD SF m) n D k) : Nat) : Int)) R ≤ sm (fun r => wsum (lvb ca sh v) dy (fun _ => 1) n (D r)) R := by
        refine sm_le fun r _ => ?_
        have a1 : (nz (qB (lvb ca sh v) sa dy (uni ct dy SD SF m) n D r) : Int) ≤ sm (fun k => if lvb ca sh v k = true ∧ dy k = D r then (if sa k = 0 then 1 else 0) else 0) n := by
          refine (nz_sm fun k hk => ?_).1
          have := wB_bd (sa := sa) hu hk
          have hx : 0 < wB sa (uni ct dy SD SF m) k → sa k = 0 := fun z => by
            by_cases y : sa k = 0
            · exact y
            · unfold wB at z; rw [if_neg y] at z; omega
          by_cases q : lvb ca sh v k = true ∧ dy k = D r
          · rw [if_pos q, if_pos q]
            exact ⟨this.1, by split <;> omega, fun z => by rw [if_pos (hx z)]; omega⟩
          · rw [if_neg q, if_neg q]; omega
        have a2 : (nz (qS (lvb ca sh v) sa dy (uni ct dy SD SF m) n D r) : Int) ≤ sm (fun k => if lvb ca sh v k = true ∧ dy k = D r then (if sa k = 0 then 0 else 1) else 0) n := by
          refine (nz_sm fun k hk => ?_).1
          have := wS_bd (sa := sa) hu hk
          have hx : 0 < wS sa (uni ct dy SD SF m) k → ¬ sa k = 0 := fun z y => by
            unfold wS at z; rw [if_pos y] at z; omega
          by_cases q : lvb ca sh v k = true ∧ dy k = D r
          · rw [if_pos q, if_pos q]
            exact ⟨this.1, by split <;> omega, fun z => by rw [if_neg (hx z)]; omega⟩
          · rw [if_neg q, if_neg q]; omega
        have a3 : sm (fun k => if lvb ca sh v k = true ∧ dy k = D r then (if sa k = 0 then (1 : Int) else 0) else 0) n + sm (fun k => if lvb ca sh v k = true ∧ dy k = D r then (if sa k = 0 then (0 : Int) else 1) else 0) n = wsum (lvb ca sh v) dy (fun _ => 1) n (D r) := by
          rw [← sm_add]
          refine sm_congr fun k _ => ?_
          by_cases q : lvb ca sh v k = true ∧ dy k = D r
          · rw [if_pos q, if_pos q, if_pos q]; show _ = (1 : Int); split <;> omega
          · rw [if_neg q, if_neg q, if_neg q]; rfl
        push_cast; omega
      rw [rows_all hR] at h1
      have h2 : sm (fun k => if lvb ca sh v k = true then (1 : Int) else 0) n ≤ n * 1 := sm_bd fun k _ => by split <;> omega
      omega
    omega
  · exact all _ (fun k hk => wB_bd hm hk)
  · exact all _ (fun k hk => wS_bd hm hk)
end
section
set_option maxHeartbeats 4000000 in
set_option maxRecDepth 100000 in
theorem c_X0_counts (l : Launch) (cg : Nat → ClassId) (D : va_G) (ad : Nat → Nat) (st : Nat → Nat → Int) (k : Nat) (v : Int) (hk : k < 60) (h4 : -2147483648 ≤ st 24 k ∧ st 24 k < 2147483648) (h3 : -2147483648 ≤ st 23 k ∧ st 23 k < 2147483648) (hv : -2147483648 ≤ v ∧ v < 2147483648) : MI l yX0_counts wsX0_counts ({ frames := 0, cells := 0, slots := 0, locals := 0 }) D vwCl (TY cg) 28 (celL cg) ad st [.ref (ad 21), .int (iI ((k : Nat) : Int)), .int (iI v)] (fun z st1 => st1 = st ∧ ((z = 1 ∧ st 24 k = v ∧ st 23 k = 0) ∨ (z = 0 ∧ ¬ (st 24 k = v ∧ st 23 k = 0)))) := by
  refine mk_open (cc := cX0_counts) (maxL := 3) (ret := (some .boolean)) (by decide) rfl (Nat.le_of_ble_eq_true rfl) ?_
  intro p e s m args below meth c hx hb hml hr hown hts hlocks hK hN hargs ls hl hW
  have hown : s.vm.findClass RX0 = some m.cls := hown
  have hl : lv_has ls 3 [(0, .ref (ad 21)), (1, .int (iI ((k : Nat) : Int))), (2, .int (iI v))] := hl
  have inX0 : ∀ w ∈ wsX00, w ∈ wsX0_counts := by decide +kernel
  have fl18 := hts (.fieldLink RX0 18 "GainsReckoner$Journal" "share" "[I") (by decide +kernel)
  have fl15 := hts (.fieldLink RX0 15 "GainsReckoner$Journal" "cancelled" "[Z") (by decide +kernel)
  refine lv_aload_n hx hb dX0_counts_0 rfl (lv_at hl 0 rfl) ?_
  refine mk_get (ci := 0) (C := RX0) (T := TX0) (N := 7) hx hb hts inX0 hown hK hW 21 (by decide) rfl rfl 2 (by decide) fl18 (fun _ h9 => h9) rfl dX0_counts_1 ?_
  refine lv_iload_n hx hb dX0_counts_4 rfl (lv_at hl 1 rfl) ?_
  refine mk_iald hx hb hK hW 24 (by decide) rfl 0 rfl (j := k) rfl (by omega) (by decide) dX0_counts_5 ?_
  refine lv_iload_n hx hb dX0_counts_6 rfl (lv_at hl 2 rfl) ?_
  refine mk_icmp_ne (tgt := 23) hx hb dX0_counts_7 (by decide) (by omega) (by omega) (fun c_7 => ?_) (fun c_7 => ?_)
  · skip
    refine mk_iconst hx hb (0) dX0_counts_23 ?_
    exact mk_retZ hx hb hr hlocks hW (by omega) ⟨rfl, Or.inr ⟨rfl, by omega⟩⟩ dX0_counts_24
  · skip
    refine lv_aload_n hx hb dX0_counts_10 rfl (lv_at hl 0 rfl) ?_
    refine mk_get (ci := 0) (C := RX0) (T := TX0) (N := 7) hx hb hts inX0 hown hK hW 21 (by decide) rfl rfl 1 (by decide) fl15 (fun _ h9 => h9) rfl dX0_counts_11 ?_
    refine lv_iload_n hx hb dX0_counts_14 rfl (lv_at hl 1 rfl) ?_
    refine mk_zald hx hb hK hW 23 (by decide) rfl 1 rfl (j := k) rfl (by omega) (by decide) dX0_counts_15 ?_
    refine mk_if_ne (tgt := 23) hx hb dX0_counts_16 (by decide) (by omega) (fun c_16 => ?_) (fun c_16 => ?_)
    · skip
      refine mk_iconst hx hb (0) dX0_counts_23 ?_
      exact mk_retZ hx hb hr hlocks hW (by omega) ⟨rfl, Or.inr ⟨rfl, by omega⟩⟩ dX0_counts_24
    · skip
      refine mk_iconst hx hb (1) dX0_counts_19 ?_
      refine lv_goto (tgt := 24) hx hb dX0_counts_20 (by decide) ?_
      exact mk_retZ hx hb hr hlocks hW (by omega) ⟨rfl, Or.inl ⟨rfl, by omega, by omega⟩⟩ dX0_counts_24

set_option maxHeartbeats 4000000 in
set_option maxRecDepth 100000 in
theorem c_X4_factorBetween (l : Launch) (cg : Nat → ClassId) (D : va_G) (ad : Nat → Nat) (st : Nat → Nat → Int) (a b : Int) (mm : Nat) (hm : st 1 2 = mm) (hS : SPV (st 2) (st 3) mm) (ha : -2147483648 ≤ a ∧ a < 2147483648) (hb9 : -2147483648 ≤ b ∧ b < 2147483648) : MI l yX4_factorBetween wsX4_factorBetween ({ frames := 0, cells := 0, slots := 0, locals := 0 }) D vwCl (TY cg) 28 (celL cg) ad st [.ref (ad 1), .int (iI a), .int (iI b)] (fun z st1 => st1 = st ∧ z = fac (st 2) (st 3) mm a b) := by
  refine mk_open (cc := cX4_factorBetween) (maxL := 5) (ret := (some .int)) (by decide) rfl (Nat.le_of_ble_eq_true rfl) ?_
  intro p e s m args below meth c hx hb hml hr hown hts hlocks hK hN hargs ls hl hW
  have hown : s.vm.findClass RX4 = some m.cls := hown
  have hl : lv_has ls 5 [(0, .ref (ad 1)), (1, .int (iI a)), (2, .int (iI b))] := hl
  have inX4 : ∀ w ∈ wsX40, w ∈ wsX4_factorBetween := by decide +kernel
  have fl18 := hts (.fieldLink RX4 18 "GainsReckoner$Splits" "size" "I") (by decide +kernel)
  have fl9 := hts (.fieldLink RX4 9 "GainsReckoner$Splits" "day" "[I") (by decide +kernel)
  have fl15 := hts (.fieldLink RX4 15 "GainsReckoner$Splits" "factor" "[I") (by decide +kernel)
  have h44 := hS.1
  refine mk_iconst hx hb (1) dX4_factorBetween_0 ?_
  refine lv_istore_n (lv' := [(3, .int (iI 1)), (0, .ref (ad 1)), (1, .int (iI a)), (2, .int (iI b))]) hx hb dX4_factorBetween_1 rfl hl (by decide) rfl (fun ls hl => ?_)
  refine mk_iconst hx hb (0) dX4_factorBetween_2 ?_
  refine lv_istore (lv' := [(4, .int (iI 0)), (3, .int (iI 1)), (0, .ref (ad 1)), (1, .int (iI a)), (2, .int (iI b))]) hx hb dX4_factorBetween_3 hl (by decide) rfl (fun ls hl => ?_)
  have loop5 : ∀ (fuel : Nat) (i : Nat) (acc : Int), (i ≤ mm) → (acc = fac (st 2) (st 3) i a b) → mm - i < fuel → ∀ (H : Heap) (locs : List Loc) (ls : Array Slot), GW D vwCl 28 (celL cg) ad (wA 28 ad) s.heap st H locs → lv_has ls 5 [(0, .ref (ad 1)), (1, .int (iI a)), (2, .int (iI b)), (3, .int (iI acc)), (4, .int (iI ((i : Nat) : Int)))] → W p l e (headSpec wsX4_factorBetween ({ frames := 0, cells := 0, slots := 0, locals := 0 })).room s m args below meth c H locs 0 0 (MQ below (va_Qi (fun (r : Int32) (u : Nat → Nat → Int) => ∃ z : Int, r = iI z ∧ (fun z st1 => st1 = st ∧ z = fac (st 2) (st 3) mm a b) z u) (mB D vwCl 28 (celL cg) ad) (wA 28 ad)) args s 0 0 (wA 28 ad)) (F0 m 5 ls []) := by
    intro fuel
    induction fuel with
    | zero => intro i acc hi hacc hmu; omega
    | succ fuel ih5 =>
      intro i acc hi hacc hmu H locs ls hW hl
      have h44 := hS.1
      refine lv_iload hx hb dX4_factorBetween_5 (lv_at hl 4 rfl) ?_
      refine lv_aload_n hx hb dX4_factorBetween_7 rfl (lv_at hl 0 rfl) ?_
      refine mk_get (ci := 4) (C := RX4) (T := TX4) (N := 3) hx hb hts inX4 hown hK hW 1 (by decide) rfl rfl 2 (by decide) fl18 (fun _ h9 => h9) rfl dX4_factorBetween_8 ?_
      refine mk_sayi (y := ((mm : Nat) : Int)) hm ?_
      refine mk_icmp_ge (tgt := 52) hx hb dX4_factorBetween_11 (by decide) (by omega) (by omega) (fun c_11 => ?_) (fun c_11 => ?_)
      · skip
        refine lv_iload_n hx hb dX4_factorBetween_52 rfl (lv_at hl 3 rfl) ?_
        exact mk_retI hx hb hr hlocks hW ⟨rfl, by rw [hacc, show i = mm by omega]⟩ dX4_factorBetween_53
      · skip
        refine lv_aload_n hx hb dX4_factorBetween_14 rfl (lv_at hl 0 rfl) ?_
        refine mk_get (ci := 4) (C := RX4) (T := TX4) (N := 3) hx hb hts inX4 hown hK hW 1 (by decide) rfl rfl 0 (by decide) fl9 (fun _ h9 => h9) rfl dX4_factorBetween_15 ?_
        refine lv_iload hx hb dX4_factorBetween_18 (lv_at hl 4 rfl) ?_
        refine mk_iald hx hb hK hW 2 (by decide) rfl 0 rfl (j := i) rfl (by omega) (by decide) dX4_factorBetween_20 ?_
        have hS9 := (hS.2 i (by omega)).1
        refine lv_iload_n hx hb dX4_factorBetween_21 rfl (lv_at hl 1 rfl) ?_
        refine mk_icmp_le (tgt := 46) hx hb dX4_factorBetween_22 (by decide) (by omega) (by omega) (fun c_22 => ?_) (fun c_22 => ?_)
        · skip
          refine mk_iinc (w := ((i + 1 : Nat) : Int)) (lv' := [(4, .int (iI ((i + 1 : Nat) : Int))), (0, .ref (ad 1)), (1, .int (iI a)), (2, .int (iI b)), (3, .int (iI acc))]) hx hb dX4_factorBetween_46 hl (k := 4) rfl (by omega) (by decide) rfl (fun ls hl => ?_)
          refine lv_goto (tgt := 5) hx hb dX4_factorBetween_49 (by decide) ?_
          exact ih5 (i + 1) acc (by omega) (by rw [hacc]; unfold fac; rw [pd_succ, if_neg (by omega), Int.mul_one]) (by omega) _ _ _ hW (lv_sub hl [1, 2, 3, 4, 0] rfl)
        · skip
          refine lv_aload_n hx hb dX4_factorBetween_25 rfl (lv_at hl 0 rfl) ?_
          refine mk_get (ci := 4) (C := RX4) (T := TX4) (N := 3) hx hb hts inX4 hown hK hW 1 (by decide) rfl rfl 0 (by decide) fl9 (fun _ h9 => h9) rfl dX4_factorBetween_26 ?_
          refine lv_iload hx hb dX4_factorBetween_29 (lv_at hl 4 rfl) ?_
          refine mk_iald hx hb hK hW 2 (by decide) rfl 0 rfl (j := i) rfl (by omega) (by decide) dX4_factorBetween_31 ?_
          have hS9 := (hS.2 i (by omega)).1
          refine lv_iload_n hx hb dX4_factorBetween_32 rfl (lv_at hl 2 rfl) ?_
          refine mk_icmp_gt (tgt := 46) hx hb dX4_factorBetween_33 (by decide) (by omega) (by omega) (fun c_33 => ?_) (fun c_33 => ?_)
          · skip
            refine mk_iinc (w := ((i + 1 : Nat) : Int)) (lv' := [(4, .int (iI ((i + 1 : Nat) : Int))), (0, .ref (ad 1)), (1, .int (iI a)), (2, .int (iI b)), (3, .int (iI acc))]) hx hb dX4_factorBetween_46 hl (k := 4) rfl (by omega) (by decide) rfl (fun ls hl => ?_)
            refine lv_goto (tgt := 5) hx hb dX4_factorBetween_49 (by decide) ?_
            exact ih5 (i + 1) acc (by omega) (by rw [hacc]; unfold fac; rw [pd_succ, if_neg (by omega), Int.mul_one]) (by omega) _ _ _ hW (lv_sub hl [1, 2, 3, 4, 0] rfl)
          · skip
            refine lv_iload_n hx hb dX4_factorBetween_36 rfl (lv_at hl 3 rfl) ?_
            refine lv_aload_n hx hb dX4_factorBetween_37 rfl (lv_at hl 0 rfl) ?_
            refine mk_get (ci := 4) (C := RX4) (T := TX4) (N := 3) hx hb hts inX4 hown hK hW 1 (by decide) rfl rfl 1 (by decide) fl15 (fun _ h9 => h9) rfl dX4_factorBetween_38 ?_
            refine lv_iload hx hb dX4_factorBetween_41 (lv_at hl 4 rfl) ?_
            refine mk_iald hx hb hK hW 3 (by decide) rfl 0 rfl (j := i) rfl (by omega) (by decide) dX4_factorBetween_43 ?_
            refine mk_imul hx hb dX4_factorBetween_44 ?_
            refine lv_istore_n (lv' := [(3, .int (iI (acc * (st 3 i)))), (0, .ref (ad 1)), (1, .int (iI a)), (2, .int (iI b)), (4, .int (iI ((i : Nat) : Int)))]) hx hb dX4_factorBetween_45 rfl hl (by decide) rfl (fun ls hl => ?_)
            refine mk_iinc (w := ((i + 1 : Nat) : Int)) (lv' := [(4, .int (iI ((i + 1 : Nat) : Int))), (3, .int (iI (acc * (st 3 i)))), (0, .ref (ad 1)), (1, .int (iI a)), (2, .int (iI b))]) hx hb dX4_factorBetween_46 hl (k := 4) rfl (by omega) (by decide) rfl (fun ls hl => ?_)
            refine lv_goto (tgt := 5) hx hb dX4_factorBetween_49 (by decide) ?_
            exact ih5 (i + 1) (acc * (st 3 i)) (by omega) (by rw [hacc]; unfold fac; rw [pd_succ, if_pos (by omega)]) (by omega) _ _ _ hW (lv_sub hl [2, 3, 4, 1, 0] rfl)
  exact loop5 _ 0 1 (Nat.zero_le _) rfl (Nat.lt_succ_self _) _ _ _ hW (lv_sub hl [2, 3, 4, 1, 0] rfl)

set_option maxHeartbeats 4000000 in
set_option maxRecDepth 100000 in
theorem c_X4_isFull (l : Launch) (cg : Nat → ClassId) (D : va_G) (ad : Nat → Nat) (st : Nat → Nat → Int) (mm : Nat) (hm : st 1 2 = mm) (h44 : mm ≤ 4) : MI l yX4_isFull wsX4_isFull ({ frames := 0, cells := 0, slots := 0, locals := 0 }) D vwCl (TY cg) 28 (celL cg) ad st [.ref (ad 1)] (fun z st1 => st1 = st ∧ ((z = 1 ∧ mm = 4) ∨ (z = 0 ∧ mm < 4))) := by
  refine mk_open (cc := cX4_isFull) (maxL := 1) (ret := (some .boolean)) (by decide) rfl (Nat.le_of_ble_eq_true rfl) ?_
  intro p e s m args below meth c hx hb hml hr hown hts hlocks hK hN hargs ls hl hW
  have hown : s.vm.findClass RX4 = some m.cls := hown
  have hl : lv_has ls 1 [(0, .ref (ad 1))] := hl
  have inX4 : ∀ w ∈ wsX40, w ∈ wsX4_isFull := by decide +kernel
  have fl18 := hts (.fieldLink RX4 18 "GainsReckoner$Splits" "size" "I") (by decide +kernel)
  refine lv_aload_n hx hb dX4_isFull_0 rfl (lv_at hl 0 rfl) ?_
  refine mk_get (ci := 4) (C := RX4) (T := TX4) (N := 3) hx hb hts inX4 hown hK hW 1 (by decide) rfl rfl 2 (by decide) fl18 (fun _ h9 => h9) rfl dX4_isFull_1 ?_
  refine mk_sayi (y := ((mm : Nat) : Int)) hm ?_
  refine mk_iconst hx hb (4) dX4_isFull_4 ?_
  refine mk_icmp_lt (tgt := 12) hx hb dX4_isFull_5 (by decide) (by omega) (by omega) (fun c_5 => ?_) (fun c_5 => ?_)
  · skip
    refine mk_iconst hx hb (0) dX4_isFull_12 ?_
    exact mk_retZ hx hb hr hlocks hW (by omega) ⟨rfl, Or.inr ⟨rfl, by omega⟩⟩ dX4_isFull_13
  · skip
    refine mk_iconst hx hb (1) dX4_isFull_8 ?_
    refine lv_goto (tgt := 13) hx hb dX4_isFull_9 (by decide) ?_
    exact mk_retZ hx hb hr hlocks hW (by omega) ⟨rfl, Or.inl ⟨rfl, by omega⟩⟩ dX4_isFull_13

set_option maxHeartbeats 4000000 in
set_option maxRecDepth 100000 in
theorem c_X4_hasDay (l : Launch) (cg : Nat → ClassId) (D : va_G) (ad : Nat → Nat) (st : Nat → Nat → Int) (d : Int) (mm : Nat) (hm : st 1 2 = mm) (hS : SPV (st 2) (st 3) mm) (hd : -2147483648 ≤ d ∧ d < 2147483648) : MI l yX4_hasDay wsX4_hasDay ({ frames := 0, cells := 0, slots := 0, locals := 0 }) D vwCl (TY cg) 28 (celL cg) ad st [.ref (ad 1), .int (iI d)] (fun z st1 => st1 = st ∧ ((z = 1 ∧ ∃ i, i < mm ∧ st 2 i = d) ∨ (z = 0 ∧ ∀ i, i < mm → st 2 i ≠ d))) := by
  refine mk_open (cc := cX4_hasDay) (maxL := 3) (ret := (some .boolean)) (by decide) rfl (Nat.le_of_ble_eq_true rfl) ?_
  intro p e s m args below meth c hx hb hml hr hown hts hlocks hK hN hargs ls hl hW
  have hown : s.vm.findClass RX4 = some m.cls := hown
  have hl : lv_has ls 3 [(0, .ref (ad 1)), (1, .int (iI d))] := hl
  have inX4 : ∀ w ∈ wsX40, w ∈ wsX4_hasDay := by decide +kernel
  have fl18 := hts (.fieldLink RX4 18 "GainsReckoner$Splits" "size" "I") (by decide +kernel)
  have fl9 := hts (.fieldLink RX4 9 "GainsReckoner$Splits" "day" "[I") (by decide +kernel)
  have h44 := hS.1
  refine mk_iconst hx hb (0) dX4_hasDay_0 ?_
  refine lv_istore_n (lv' := [(2, .int (iI 0)), (0, .ref (ad 1)), (1, .int (iI d))]) hx hb dX4_hasDay_1 rfl hl (by decide) rfl (fun ls hl => ?_)
  have loop2 : ∀ (fuel : Nat) (i : Nat), (i ≤ mm) → (∀ q, q < i → st 2 q ≠ d) → mm - i < fuel → ∀ (H : Heap) (locs : List Loc) (ls : Array Slot), GW D vwCl 28 (celL cg) ad (wA 28 ad) s.heap st H locs → lv_has ls 3 [(0, .ref (ad 1)), (1, .int (iI d)), (2, .int (iI ((i : Nat) : Int)))] → W p l e (headSpec wsX4_hasDay ({ frames := 0, cells := 0, slots := 0, locals := 0 })).room s m args below meth c H locs 0 0 (MQ below (va_Qi (fun (r : Int32) (u : Nat → Nat → Int) => ∃ z : Int, r = iI z ∧ (fun z st1 => st1 = st ∧ ((z = 1 ∧ ∃ i, i < mm ∧ st 2 i = d) ∨ (z = 0 ∧ ∀ i, i < mm → st 2 i ≠ d))) z u) (mB D vwCl 28 (celL cg) ad) (wA 28 ad)) args s 0 0 (wA 28 ad)) (F0 m 2 ls []) := by
    intro fuel
    induction fuel with
    | zero => intro i hi hno hmu; omega
    | succ fuel ih2 =>
      intro i hi hno hmu H locs ls hW hl
      refine lv_iload_n hx hb dX4_hasDay_2 rfl (lv_at hl 2 rfl) ?_
      refine lv_aload_n hx hb dX4_hasDay_3 rfl (lv_at hl 0 rfl) ?_
      refine mk_get (ci := 4) (C := RX4) (T := TX4) (N := 3) hx hb hts inX4 hown hK hW 1 (by decide) rfl rfl 2 (by decide) fl18 (fun _ h9 => h9) rfl dX4_hasDay_4 ?_
      refine mk_sayi (y := ((mm : Nat) : Int)) hm ?_
      refine mk_icmp_ge (tgt := 28) hx hb dX4_hasDay_7 (by decide) (by omega) (by omega) (fun c_7 => ?_) (fun c_7 => ?_)
      · skip
        refine mk_iconst hx hb (0) dX4_hasDay_28 ?_
        exact mk_retZ hx hb hr hlocks hW (by omega) ⟨rfl, Or.inr ⟨rfl, fun q hq => hno q (by omega)⟩⟩ dX4_hasDay_29
      · skip
        refine lv_aload_n hx hb dX4_hasDay_10 rfl (lv_at hl 0 rfl) ?_
        refine mk_get (ci := 4) (C := RX4) (T := TX4) (N := 3) hx hb hts inX4 hown hK hW 1 (by decide) rfl rfl 0 (by decide) fl9 (fun _ h9 => h9) rfl dX4_hasDay_11 ?_
        refine lv_iload_n hx hb dX4_hasDay_14 rfl (lv_at hl 2 rfl) ?_
        refine mk_iald hx hb hK hW 2 (by decide) rfl 0 rfl (j := i) rfl (by omega) (by decide) dX4_hasDay_15 ?_
        have hS9 := (hS.2 i (by omega)).1
        refine lv_iload_n hx hb dX4_hasDay_16 rfl (lv_at hl 1 rfl) ?_
        refine mk_icmp_ne (tgt := 22) hx hb dX4_hasDay_17 (by decide) (by omega) (by omega) (fun c_17 => ?_) (fun c_17 => ?_)
        · skip
          refine mk_iinc (w := ((i + 1 : Nat) : Int)) (lv' := [(2, .int (iI ((i + 1 : Nat) : Int))), (0, .ref (ad 1)), (1, .int (iI d))]) hx hb dX4_hasDay_22 hl (k := 2) rfl (by omega) (by decide) rfl (fun ls hl => ?_)
          refine lv_goto (tgt := 2) hx hb dX4_hasDay_25 (by decide) ?_
          exact ih2 (i + 1) (by omega) (fun q hq => by rcases Nat.lt_or_ge q i with y | y; exact hno q y; rw [show q = i by omega]; exact c_17) (by omega) _ _ _ hW (lv_sub hl [1, 2, 0] rfl)
        · skip
          refine mk_iconst hx hb (1) dX4_hasDay_20 ?_
          exact mk_retZ hx hb hr hlocks hW (by omega) ⟨rfl, Or.inl ⟨rfl, i, by omega, by omega⟩⟩ dX4_hasDay_21
  exact loop2 _ 0 (Nat.zero_le _) (fun q hq => absurd hq (by omega)) (Nat.lt_succ_self _) _ _ _ hW (lv_sub hl [1, 2, 0] rfl)

set_option maxHeartbeats 4000000 in
set_option maxRecDepth 100000 in
theorem c_X3_lastRowUpTo (l : Launch) (cg : Nat → ClassId) (D : va_G) (ad : Nat → Nat) (st : Nat → Nat → Int) (d : Int) (R : Nat) (hR : st 4 9 = R) (hR6 : R ≤ 60) (hD : ∀ r, r < R → -2147483648 ≤ st 5 r ∧ st 5 r < 2147483648) (hd : -2147483648 ≤ d ∧ d < 2147483648) : MI l yX3_lastRowUpTo wsX3_lastRowUpTo ({ frames := 0, cells := 0, slots := 0, locals := 0 }) D vwCl (TY cg) 28 (celL cg) ad st [.ref (ad 4), .int (iI d)] (fun z st1 => st1 = st ∧ ∃ q : Nat, z = (q : Int) - 1 ∧ q ≤ R ∧ (∀ r, r < q → st 5 r ≤ d) ∧ (q < R → d < st 5 q)) := by
  refine mk_open (cc := cX3_lastRowUpTo) (maxL := 4) (ret := (some .int)) (by decide) rfl (Nat.le_of_ble_eq_true rfl) ?_
  intro p e s m args below meth c hx hb hml hr hown hts hlocks hK hN hargs ls hl hW
  have hown : s.vm.findClass RX3 = some m.cls := hown
  have hl : lv_has ls 4 [(0, .ref (ad 4)), (1, .int (iI d))] := hl
  have inX3 : ∀ w ∈ wsX30, w ∈ wsX3_lastRowUpTo := by decide +kernel
  have fl39 := hts (.fieldLink RX3 39 "GainsReckoner$Sheet" "size" "I") (by decide +kernel)
  have fl9 := hts (.fieldLink RX3 9 "GainsReckoner$Sheet" "day" "[I") (by decide +kernel)
  refine mk_iconst hx hb (-1) dX3_lastRowUpTo_0 ?_
  refine lv_istore_n (lv' := [(2, .int (iI (-1 : Int))), (0, .ref (ad 4)), (1, .int (iI d))]) hx hb dX3_lastRowUpTo_1 rfl hl (by decide) rfl (fun ls hl => ?_)
  refine mk_iconst hx hb (0) dX3_lastRowUpTo_2 ?_
  refine lv_istore_n (lv' := [(3, .int (iI 0)), (2, .int (iI (-1 : Int))), (0, .ref (ad 4)), (1, .int (iI d))]) hx hb dX3_lastRowUpTo_3 rfl hl (by decide) rfl (fun ls hl => ?_)
  have loop4 : ∀ (fuel : Nat) (r : Nat) (f : Int), (r ≤ R) → (f = (r : Int) - 1) → (∀ q, q < r → st 5 q ≤ d) → R - r < fuel → ∀ (H : Heap) (locs : List Loc) (ls : Array Slot), GW D vwCl 28 (celL cg) ad (wA 28 ad) s.heap st H locs → lv_has ls 4 [(0, .ref (ad 4)), (1, .int (iI d)), (2, .int (iI f)), (3, .int (iI ((r : Nat) : Int)))] → W p l e (headSpec wsX3_lastRowUpTo ({ frames := 0, cells := 0, slots := 0, locals := 0 })).room s m args below meth c H locs 0 0 (MQ below (va_Qi (fun (r : Int32) (u : Nat → Nat → Int) => ∃ z : Int, r = iI z ∧ (fun z st1 => st1 = st ∧ ∃ q : Nat, z = (q : Int) - 1 ∧ q ≤ R ∧ (∀ r, r < q → st 5 r ≤ d) ∧ (q < R → d < st 5 q)) z u) (mB D vwCl 28 (celL cg) ad) (wA 28 ad)) args s 0 0 (wA 28 ad)) (F0 m 4 ls []) := by
    intro fuel
    induction fuel with
    | zero => intro r f hr6 hf hle hmu; omega
    | succ fuel ih4 =>
      intro r f hr6 hf hle hmu H locs ls hW hl
      refine lv_iload_n hx hb dX3_lastRowUpTo_4 rfl (lv_at hl 3 rfl) ?_
      refine lv_aload_n hx hb dX3_lastRowUpTo_5 rfl (lv_at hl 0 rfl) ?_
      refine mk_get (ci := 3) (C := RX3) (T := TX3) (N := 10) hx hb hts inX3 hown hK hW 4 (by decide) rfl rfl 9 (by decide) fl39 (fun _ h9 => h9) rfl dX3_lastRowUpTo_6 ?_
      refine mk_sayi (y := ((R : Nat) : Int)) hR ?_
      refine mk_icmp_ge (tgt := 30) hx hb dX3_lastRowUpTo_9 (by decide) (by omega) (by omega) (fun c_9 => ?_) (fun c_9 => ?_)
      · skip
        refine lv_iload_n hx hb dX3_lastRowUpTo_30 rfl (lv_at hl 2 rfl) ?_
        exact mk_retI hx hb hr hlocks hW ⟨rfl, r, hf, hr6, hle, fun h => by omega⟩ dX3_lastRowUpTo_31
      · skip
        refine lv_aload_n hx hb dX3_lastRowUpTo_12 rfl (lv_at hl 0 rfl) ?_
        refine mk_get (ci := 3) (C := RX3) (T := TX3) (N := 10) hx hb hts inX3 hown hK hW 4 (by decide) rfl rfl 0 (by decide) fl9 (fun _ h9 => h9) rfl dX3_lastRowUpTo_13 ?_
        refine lv_iload_n hx hb dX3_lastRowUpTo_16 rfl (lv_at hl 3 rfl) ?_
        refine mk_iald hx hb hK hW 5 (by decide) rfl 0 rfl (j := r) rfl (by omega) (by decide) dX3_lastRowUpTo_17 ?_
        have hD9 := hD r (by omega)
        refine lv_iload_n hx hb dX3_lastRowUpTo_18 rfl (lv_at hl 1 rfl) ?_
        refine mk_icmp_gt (tgt := 30) hx hb dX3_lastRowUpTo_19 (by decide) (by omega) (by omega) (fun c_19 => ?_) (fun c_19 => ?_)
        · skip
          refine lv_iload_n hx hb dX3_lastRowUpTo_30 rfl (lv_at hl 2 rfl) ?_
          exact mk_retI hx hb hr hlocks hW ⟨rfl, r, hf, hr6, hle, fun h => by omega⟩ dX3_lastRowUpTo_31
        · skip
          refine lv_iload_n hx hb dX3_lastRowUpTo_22 rfl (lv_at hl 3 rfl) ?_
          refine lv_istore_n (lv' := [(2, .int (iI ((r : Nat) : Int))), (0, .ref (ad 4)), (1, .int (iI d)), (3, .int (iI ((r : Nat) : Int)))]) hx hb dX3_lastRowUpTo_23 rfl hl (by decide) rfl (fun ls hl => ?_)
          refine mk_iinc (w := ((r + 1 : Nat) : Int)) (lv' := [(3, .int (iI ((r + 1 : Nat) : Int))), (2, .int (iI ((r : Nat) : Int))), (0, .ref (ad 4)), (1, .int (iI d))]) hx hb dX3_lastRowUpTo_24 hl (k := 3) rfl (by omega) (by decide) rfl (fun ls hl => ?_)
          refine lv_goto (tgt := 4) hx hb dX3_lastRowUpTo_27 (by decide) ?_
          exact ih4 (r + 1) ((r : Nat) : Int) (by omega) (by omega) (fun q hq => by rcases Nat.lt_or_ge q r with y | y; exact hle q y; rw [show q = r by omega]; omega) (by omega) _ _ _ hW (lv_sub hl [2, 3, 1, 0] rfl)
  exact loop4 _ 0 (-1) (Nat.zero_le _) rfl (fun q hq => absurd hq (by omega)) (Nat.lt_succ_self _) _ _ _ hW (lv_sub hl [2, 3, 1, 0] rfl)

set_option maxHeartbeats 4000000 in
set_option maxRecDepth 100000 in
theorem c_X3_costOfBuys (l : Launch) (cg : Nat → ClassId) (D : va_G) (ad : Nat → Nat) (st : Nat → Nat → Int) (R : Nat) (hR : st 4 9 = R) (hR6 : R ≤ 60) : MI l yX3_costOfBuys wsX3_costOfBuys ({ frames := 0, cells := 0, slots := 0, locals := 0 }) D vwCl (TY cg) 28 (celL cg) ad st [.ref (ad 4)] (fun z st1 => st1 = st ∧ z = sm (st 8) R) := by
  refine mk_open (cc := cX3_costOfBuys) (maxL := 3) (ret := (some .int)) (by decide) rfl (Nat.le_of_ble_eq_true rfl) ?_
  intro p e s m args below meth c hx hb hml hr hown hts hlocks hK hN hargs ls hl hW
  have hown : s.vm.findClass RX3 = some m.cls := hown
  have hl : lv_has ls 3 [(0, .ref (ad 4))] := hl
  have inX3 : ∀ w ∈ wsX30, w ∈ wsX3_costOfBuys := by decide +kernel
  have fl39 := hts (.fieldLink RX3 39 "GainsReckoner$Sheet" "size" "I") (by decide +kernel)
  have fl21 := hts (.fieldLink RX3 21 "GainsReckoner$Sheet" "cost" "[I") (by decide +kernel)
  refine mk_iconst hx hb (0) dX3_costOfBuys_0 ?_
  refine lv_istore_n (lv' := [(1, .int (iI 0)), (0, .ref (ad 4))]) hx hb dX3_costOfBuys_1 rfl hl (by decide) rfl (fun ls hl => ?_)
  refine mk_iconst hx hb (0) dX3_costOfBuys_2 ?_
  refine lv_istore_n (lv' := [(2, .int (iI 0)), (1, .int (iI 0)), (0, .ref (ad 4))]) hx hb dX3_costOfBuys_3 rfl hl (by decide) rfl (fun ls hl => ?_)
  have loop4 : ∀ (fuel : Nat) (r : Nat) (f : Int), (r ≤ R) → (f = sm (st 8) r) → R - r < fuel → ∀ (H : Heap) (locs : List Loc) (ls : Array Slot), GW D vwCl 28 (celL cg) ad (wA 28 ad) s.heap st H locs → lv_has ls 3 [(0, .ref (ad 4)), (1, .int (iI f)), (2, .int (iI ((r : Nat) : Int)))] → W p l e (headSpec wsX3_costOfBuys ({ frames := 0, cells := 0, slots := 0, locals := 0 })).room s m args below meth c H locs 0 0 (MQ below (va_Qi (fun (r : Int32) (u : Nat → Nat → Int) => ∃ z : Int, r = iI z ∧ (fun z st1 => st1 = st ∧ z = sm (st 8) R) z u) (mB D vwCl 28 (celL cg) ad) (wA 28 ad)) args s 0 0 (wA 28 ad)) (F0 m 4 ls []) := by
    intro fuel
    induction fuel with
    | zero => intro r f hr6 hf hmu; omega
    | succ fuel ih4 =>
      intro r f hr6 hf hmu H locs ls hW hl
      refine lv_iload_n hx hb dX3_costOfBuys_4 rfl (lv_at hl 2 rfl) ?_
      refine lv_aload_n hx hb dX3_costOfBuys_5 rfl (lv_at hl 0 rfl) ?_
      refine mk_get (ci := 3) (C := RX3) (T := TX3) (N := 10) hx hb hts inX3 hown hK hW 4 (by decide) rfl rfl 9 (by decide) fl39 (fun _ h9 => h9) rfl dX3_costOfBuys_6 ?_
      refine mk_sayi (y := ((R : Nat) : Int)) hR ?_
      refine mk_icmp_ge (tgt := 27) hx hb dX3_costOfBuys_9 (by decide) (by omega) (by omega) (fun c_9 => ?_) (fun c_9 => ?_)
      · skip
        refine lv_iload_n hx hb dX3_costOfBuys_27 rfl (lv_at hl 1 rfl) ?_
        exact mk_retI hx hb hr hlocks hW ⟨rfl, by rw [hf, show r = R by omega]⟩ dX3_costOfBuys_28
      · skip
        refine lv_iload_n hx hb dX3_costOfBuys_12 rfl (lv_at hl 1 rfl) ?_
        refine lv_aload_n hx hb dX3_costOfBuys_13 rfl (lv_at hl 0 rfl) ?_
        refine mk_get (ci := 3) (C := RX3) (T := TX3) (N := 10) hx hb hts inX3 hown hK hW 4 (by decide) rfl rfl 3 (by decide) fl21 (fun _ h9 => h9) rfl dX3_costOfBuys_14 ?_
        refine lv_iload_n hx hb dX3_costOfBuys_17 rfl (lv_at hl 2 rfl) ?_
        refine mk_iald hx hb hK hW 8 (by decide) rfl 0 rfl (j := r) rfl (by omega) (by decide) dX3_costOfBuys_18 ?_
        refine mk_iadd hx hb dX3_costOfBuys_19 ?_
        refine lv_istore_n (lv' := [(1, .int (iI (f + (st 8 r)))), (0, .ref (ad 4)), (2, .int (iI ((r : Nat) : Int)))]) hx hb dX3_costOfBuys_20 rfl hl (by decide) rfl (fun ls hl => ?_)
        refine mk_iinc (w := ((r + 1 : Nat) : Int)) (lv' := [(2, .int (iI ((r + 1 : Nat) : Int))), (1, .int (iI (f + (st 8 r)))), (0, .ref (ad 4))]) hx hb dX3_costOfBuys_21 hl (k := 2) rfl (by omega) (by decide) rfl (fun ls hl => ?_)
        refine lv_goto (tgt := 4) hx hb dX3_costOfBuys_24 (by decide) ?_
        exact ih4 (r + 1) (f + (st 8 r)) (by omega) (by rw [hf]; rfl) (by omega) _ _ _ hW (lv_sub hl [2, 1, 0] rfl)
  exact loop4 _ 0 0 (Nat.zero_le _) rfl (Nat.lt_succ_self _) _ _ _ hW (lv_sub hl [2, 1, 0] rfl)

set_option maxHeartbeats 4000000 in
set_option maxRecDepth 100000 in
theorem c_X2_costOfAll (l : Launch) (cg : Nat → ClassId) (D : va_G) (ad : Nat → Nat) (st : Nat → Nat → Int) (M : Nat) (hM : st 14 6 = M) (hM6 : M ≤ 60) : MI l yX2_costOfAll wsX2_costOfAll ({ frames := 0, cells := 0, slots := 0, locals := 0 }) D vwCl (TY cg) 28 (celL cg) ad st [.ref (ad 14)] (fun z st1 => st1 = st ∧ z = sm (st 19) M) := by
  refine mk_open (cc := cX2_costOfAll) (maxL := 3) (ret := (some .int)) (by decide) rfl (Nat.le_of_ble_eq_true rfl) ?_
  intro p e s m args below meth c hx hb hml hr hown hts hlocks hK hN hargs ls hl hW
  have hown : s.vm.findClass RX2 = some m.cls := hown
  have hl : lv_has ls 3 [(0, .ref (ad 14))] := hl
  have inX2 : ∀ w ∈ wsX20, w ∈ wsX2_costOfAll := by decide +kernel
  have fl30 := hts (.fieldLink RX2 30 "GainsReckoner$Matches" "size" "I") (by decide +kernel)
  have fl24 := hts (.fieldLink RX2 24 "GainsReckoner$Matches" "cost" "[I") (by decide +kernel)
  refine mk_iconst hx hb (0) dX2_costOfAll_0 ?_
  refine lv_istore_n (lv' := [(1, .int (iI 0)), (0, .ref (ad 14))]) hx hb dX2_costOfAll_1 rfl hl (by decide) rfl (fun ls hl => ?_)
  refine mk_iconst hx hb (0) dX2_costOfAll_2 ?_
  refine lv_istore_n (lv' := [(2, .int (iI 0)), (1, .int (iI 0)), (0, .ref (ad 14))]) hx hb dX2_costOfAll_3 rfl hl (by decide) rfl (fun ls hl => ?_)
  have loop4 : ∀ (fuel : Nat) (r : Nat) (f : Int), (r ≤ M) → (f = sm (st 19) r) → M - r < fuel → ∀ (H : Heap) (locs : List Loc) (ls : Array Slot), GW D vwCl 28 (celL cg) ad (wA 28 ad) s.heap st H locs → lv_has ls 3 [(0, .ref (ad 14)), (1, .int (iI f)), (2, .int (iI ((r : Nat) : Int)))] → W p l e (headSpec wsX2_costOfAll ({ frames := 0, cells := 0, slots := 0, locals := 0 })).room s m args below meth c H locs 0 0 (MQ below (va_Qi (fun (r : Int32) (u : Nat → Nat → Int) => ∃ z : Int, r = iI z ∧ (fun z st1 => st1 = st ∧ z = sm (st 19) M) z u) (mB D vwCl 28 (celL cg) ad) (wA 28 ad)) args s 0 0 (wA 28 ad)) (F0 m 4 ls []) := by
    intro fuel
    induction fuel with
    | zero => intro r f hr6 hf hmu; omega
    | succ fuel ih4 =>
      intro r f hr6 hf hmu H locs ls hW hl
      refine lv_iload_n hx hb dX2_costOfAll_4 rfl (lv_at hl 2 rfl) ?_
      refine lv_aload_n hx hb dX2_costOfAll_5 rfl (lv_at hl 0 rfl) ?_
      refine mk_get (ci := 2) (C := RX2) (T := TX2) (N := 7) hx hb hts inX2 hown hK hW 14 (by decide) rfl rfl 6 (by decide) fl30 (fun _ h9 => h9) rfl dX2_costOfAll_6 ?_
      refine mk_sayi (y := ((M : Nat) : Int)) hM ?_
      refine mk_icmp_ge (tgt := 27) hx hb dX2_costOfAll_9 (by decide) (by omega) (by omega) (fun c_9 => ?_) (fun c_9 => ?_)
      · skip
        refine lv_iload_n hx hb dX2_costOfAll_27 rfl (lv_at hl 1 rfl) ?_
        exact mk_retI hx hb hr hlocks hW ⟨rfl, by rw [hf, show r = M by omega]⟩ dX2_costOfAll_28
      · skip
        refine lv_iload_n hx hb dX2_costOfAll_12 rfl (lv_at hl 1 rfl) ?_
        refine lv_aload_n hx hb dX2_costOfAll_13 rfl (lv_at hl 0 rfl) ?_
        refine mk_get (ci := 2) (C := RX2) (T := TX2) (N := 7) hx hb hts inX2 hown hK hW 14 (by decide) rfl rfl 4 (by decide) fl24 (fun _ h9 => h9) rfl dX2_costOfAll_14 ?_
        refine lv_iload_n hx hb dX2_costOfAll_17 rfl (lv_at hl 2 rfl) ?_
        refine mk_iald hx hb hK hW 19 (by decide) rfl 0 rfl (j := r) rfl (by omega) (by decide) dX2_costOfAll_18 ?_
        refine mk_iadd hx hb dX2_costOfAll_19 ?_
        refine lv_istore_n (lv' := [(1, .int (iI (f + (st 19 r)))), (0, .ref (ad 14)), (2, .int (iI ((r : Nat) : Int)))]) hx hb dX2_costOfAll_20 rfl hl (by decide) rfl (fun ls hl => ?_)
        refine mk_iinc (w := ((r + 1 : Nat) : Int)) (lv' := [(2, .int (iI ((r + 1 : Nat) : Int))), (1, .int (iI (f + (st 19 r)))), (0, .ref (ad 14))]) hx hb dX2_costOfAll_21 hl (k := 2) rfl (by omega) (by decide) rfl (fun ls hl => ?_)
        refine lv_goto (tgt := 4) hx hb dX2_costOfAll_24 (by decide) ?_
        exact ih4 (r + 1) (f + (st 19 r)) (by omega) (by rw [hf]; rfl) (by omega) _ _ _ hW (lv_sub hl [2, 1, 0] rfl)
  exact loop4 _ 0 0 (Nat.zero_le _) rfl (Nat.lt_succ_self _) _ _ _ hW (lv_sub hl [2, 1, 0] rfl)

set_option maxHeartbeats 4000000 in
set_option maxRecDepth 100000 in
theorem c_X2_gainOfYear (l : Launch) (cg : Nat → ClassId) (D : va_G) (ad : Nat → Nat) (st : Nat → Nat → Int) (y : Int) (M : Nat) (hM : st 14 6 = M) (hM6 : M ≤ 60) (hso : ∀ i, i < M → 0 ≤ st 16 i ∧ st 16 i < 1825) (hy : -2147483648 ≤ y ∧ y < 2147483648) : MI l yX2_gainOfYear wsX2_gainOfYear ({ frames := 0, cells := 0, slots := 0, locals := 0 }) D vwCl (TY cg) 28 (celL cg) ad st [.ref (ad 14), .int (iI y)] (fun z st1 => st1 = st ∧ z = sm (fun i => if st 16 i / 365 = y then st 20 i - st 19 i else 0) M) := by
  refine mk_open (cc := cX2_gainOfYear) (maxL := 4) (ret := (some .int)) (by decide) rfl (Nat.le_of_ble_eq_true rfl) ?_
  intro p e s m args below meth c hx hb hml hr hown hts hlocks hK hN hargs ls hl hW
  have hown : s.vm.findClass RX2 = some m.cls := hown
  have hl : lv_has ls 4 [(0, .ref (ad 14)), (1, .int (iI y))] := hl
  have inX2 : ∀ w ∈ wsX20, w ∈ wsX2_gainOfYear := by decide +kernel
  have fl30 := hts (.fieldLink RX2 30 "GainsReckoner$Matches" "size" "I") (by decide +kernel)
  have fl15 := hts (.fieldLink RX2 15 "GainsReckoner$Matches" "soldOn" "[I") (by decide +kernel)
  have fl27 := hts (.fieldLink RX2 27 "GainsReckoner$Matches" "proceeds" "[I") (by decide +kernel)
  have fl24 := hts (.fieldLink RX2 24 "GainsReckoner$Matches" "cost" "[I") (by decide +kernel)
  refine mk_iconst hx hb (0) dX2_gainOfYear_0 ?_
  refine lv_istore_n (lv' := [(2, .int (iI 0)), (0, .ref (ad 14)), (1, .int (iI y))]) hx hb dX2_gainOfYear_1 rfl hl (by decide) rfl (fun ls hl => ?_)
  refine mk_iconst hx hb (0) dX2_gainOfYear_2 ?_
  refine lv_istore_n (lv' := [(3, .int (iI 0)), (2, .int (iI 0)), (0, .ref (ad 14)), (1, .int (iI y))]) hx hb dX2_gainOfYear_3 rfl hl (by decide) rfl (fun ls hl => ?_)
  have loop4 : ∀ (fuel : Nat) (r : Nat) (f : Int), (r ≤ M) → (f = sm (fun i => if st 16 i / 365 = y then st 20 i - st 19 i else 0) r) → M - r < fuel → ∀ (H : Heap) (locs : List Loc) (ls : Array Slot), GW D vwCl 28 (celL cg) ad (wA 28 ad) s.heap st H locs → lv_has ls 4 [(0, .ref (ad 14)), (1, .int (iI y)), (2, .int (iI f)), (3, .int (iI ((r : Nat) : Int)))] → W p l e (headSpec wsX2_gainOfYear ({ frames := 0, cells := 0, slots := 0, locals := 0 })).room s m args below meth c H locs 0 0 (MQ below (va_Qi (fun (r : Int32) (u : Nat → Nat → Int) => ∃ z : Int, r = iI z ∧ (fun z st1 => st1 = st ∧ z = sm (fun i => if st 16 i / 365 = y then st 20 i - st 19 i else 0) M) z u) (mB D vwCl 28 (celL cg) ad) (wA 28 ad)) args s 0 0 (wA 28 ad)) (F0 m 4 ls []) := by
    intro fuel
    induction fuel with
    | zero => intro r f hr6 hf hmu; omega
    | succ fuel ih4 =>
      intro r f hr6 hf hmu H locs ls hW hl
      refine lv_iload_n hx hb dX2_gainOfYear_4 rfl (lv_at hl 3 rfl) ?_
      refine lv_aload_n hx hb dX2_gainOfYear_5 rfl (lv_at hl 0 rfl) ?_
      refine mk_get (ci := 2) (C := RX2) (T := TX2) (N := 7) hx hb hts inX2 hown hK hW 14 (by decide) rfl rfl 6 (by decide) fl30 (fun _ h9 => h9) rfl dX2_gainOfYear_6 ?_
      refine mk_sayi (y := ((M : Nat) : Int)) hM ?_
      refine mk_icmp_ge (tgt := 48) hx hb dX2_gainOfYear_9 (by decide) (by omega) (by omega) (fun c_9 => ?_) (fun c_9 => ?_)
      · skip
        refine lv_iload_n hx hb dX2_gainOfYear_48 rfl (lv_at hl 2 rfl) ?_
        exact mk_retI hx hb hr hlocks hW ⟨rfl, by rw [hf, show r = M by omega]⟩ dX2_gainOfYear_49
      · skip
        refine lv_aload_n hx hb dX2_gainOfYear_12 rfl (lv_at hl 0 rfl) ?_
        refine mk_get (ci := 2) (C := RX2) (T := TX2) (N := 7) hx hb hts inX2 hown hK hW 14 (by decide) rfl rfl 1 (by decide) fl15 (fun _ h9 => h9) rfl dX2_gainOfYear_13 ?_
        refine lv_iload_n hx hb dX2_gainOfYear_16 rfl (lv_at hl 3 rfl) ?_
        refine mk_iald hx hb hK hW 16 (by decide) rfl 0 rfl (j := r) rfl (by omega) (by decide) dX2_gainOfYear_17 ?_
        have hso9 := hso r (by omega)
        refine mk_sipush hx hb (365) (by decide +kernel) dX2_gainOfYear_18 ?_
        refine mk_idiv hx hb dX2_gainOfYear_21 (by omega) (by omega) ?_
        refine lv_iload_n hx hb dX2_gainOfYear_22 rfl (lv_at hl 1 rfl) ?_
        refine mk_icmp_ne (tgt := 42) hx hb dX2_gainOfYear_23 (by decide) (by omega) (by omega) (fun c_23 => ?_) (fun c_23 => ?_)
        · skip
          refine mk_iinc (w := ((r + 1 : Nat) : Int)) (lv' := [(3, .int (iI ((r + 1 : Nat) : Int))), (0, .ref (ad 14)), (1, .int (iI y)), (2, .int (iI f))]) hx hb dX2_gainOfYear_42 hl (k := 3) rfl (by omega) (by decide) rfl (fun ls hl => ?_)
          refine lv_goto (tgt := 4) hx hb dX2_gainOfYear_45 (by decide) ?_
          exact ih4 (r + 1) f (by omega) (by rw [hf, sm_succ, if_neg c_23, Int.add_zero]) (by omega) _ _ _ hW (lv_sub hl [1, 2, 3, 0] rfl)
        · skip
          refine lv_iload_n hx hb dX2_gainOfYear_26 rfl (lv_at hl 2 rfl) ?_
          refine lv_aload_n hx hb dX2_gainOfYear_27 rfl (lv_at hl 0 rfl) ?_
          refine mk_get (ci := 2) (C := RX2) (T := TX2) (N := 7) hx hb hts inX2 hown hK hW 14 (by decide) rfl rfl 5 (by decide) fl27 (fun _ h9 => h9) rfl dX2_gainOfYear_28 ?_
          refine lv_iload_n hx hb dX2_gainOfYear_31 rfl (lv_at hl 3 rfl) ?_
          refine mk_iald hx hb hK hW 20 (by decide) rfl 0 rfl (j := r) rfl (by omega) (by decide) dX2_gainOfYear_32 ?_
          refine lv_aload_n hx hb dX2_gainOfYear_33 rfl (lv_at hl 0 rfl) ?_
          refine mk_get (ci := 2) (C := RX2) (T := TX2) (N := 7) hx hb hts inX2 hown hK hW 14 (by decide) rfl rfl 4 (by decide) fl24 (fun _ h9 => h9) rfl dX2_gainOfYear_34 ?_
          refine lv_iload_n hx hb dX2_gainOfYear_37 rfl (lv_at hl 3 rfl) ?_
          refine mk_iald hx hb hK hW 19 (by decide) rfl 0 rfl (j := r) rfl (by omega) (by decide) dX2_gainOfYear_38 ?_
          refine mk_isub hx hb dX2_gainOfYear_39 ?_
          refine mk_iadd hx hb dX2_gainOfYear_40 ?_
          refine lv_istore_n (lv' := [(2, .int (iI (f + ((st 20 r) - (st 19 r))))), (0, .ref (ad 14)), (1, .int (iI y)), (3, .int (iI ((r : Nat) : Int)))]) hx hb dX2_gainOfYear_41 rfl hl (by decide) rfl (fun ls hl => ?_)
          refine mk_iinc (w := ((r + 1 : Nat) : Int)) (lv' := [(3, .int (iI ((r + 1 : Nat) : Int))), (2, .int (iI (f + ((st 20 r) - (st 19 r))))), (0, .ref (ad 14)), (1, .int (iI y))]) hx hb dX2_gainOfYear_42 hl (k := 3) rfl (by omega) (by decide) rfl (fun ls hl => ?_)
          refine lv_goto (tgt := 4) hx hb dX2_gainOfYear_45 (by decide) ?_
          exact ih4 (r + 1) (f + ((st 20 r) - (st 19 r))) (by omega) (by rw [hf, sm_succ, if_pos c_23]) (by omega) _ _ _ hW (lv_sub hl [2, 3, 1, 0] rfl)
  exact loop4 _ 0 0 (Nat.zero_le _) rfl (Nat.lt_succ_self _) _ _ _ hW (lv_sub hl [2, 3, 1, 0] rfl)

set_option maxHeartbeats 4000000 in
set_option maxRecDepth 100000 in
theorem c_X5_part (l : Launch) (cg : Nat → ClassId) (D : va_G) (ad : Nat → Nat) (st : Nat → Nat → Int) (t f g q : Int) (ht : 0 ≤ t ∧ t < 2147483648) (hf : 0 ≤ f ∧ f < 2147483648) (hg : 0 ≤ g ∧ g < 2147483648) (hq : 0 ≤ q ∧ q < 2147483648) : MI l yX5_part wsX5_part ({ frames := 0, cells := 0, slots := 0, locals := 0 }) D vwCl (TY cg) 28 (celL cg) ad st [.int (iI t), .int (iI f), .int (iI g), .int (iI q)] (fun z st1 => st1 = st ∧ z = t * g / q - t * f / q) := by
  refine mk_open (cc := cX5_part) (maxL := 4) (ret := (some .int)) (by decide) rfl (Nat.le_of_ble_eq_true rfl) ?_
  intro p e s m args below meth c hx hb hml hr hown hts hlocks hK hN hargs ls hl hW
  have hown : s.vm.findClass RX5 = some m.cls := hown
  have hl : lv_has ls 4 [(0, .int (iI t)), (1, .int (iI f)), (2, .int (iI g)), (3, .int (iI q))] := hl
  have h1 : 0 ≤ t * g := Int.mul_nonneg ht.1 hg.1
  have h2 : t * g ≤ 2147483648 * 2147483648 := Int.mul_le_mul (by omega) (by omega) (by omega) (by omega)
  have h3 : 0 ≤ t * f := Int.mul_nonneg ht.1 hf.1
  have h4 : t * f ≤ 2147483648 * 2147483648 := Int.mul_le_mul (by omega) (by omega) (by omega) (by omega)
  refine lv_iload_n hx hb dX5_part_0 rfl (lv_at hl 3 rfl) ?_
  refine mk_if_gt (tgt := 6) hx hb dX5_part_1 (by decide) (by omega) (fun c_1 => ?_) (fun c_1 => ?_)
  · skip
    refine lv_iload_n hx hb dX5_part_6 rfl (lv_at hl 0 rfl) ?_
    refine mk_i2l hx hb dX5_part_7 (by omega) ?_
    refine lv_iload_n hx hb dX5_part_8 rfl (lv_at hl 2 rfl) ?_
    refine mk_i2l hx hb dX5_part_9 (by omega) ?_
    refine mk_lmul hx hb dX5_part_10 ?_
    refine lv_iload_n hx hb dX5_part_11 rfl (lv_at hl 3 rfl) ?_
    refine mk_i2l hx hb dX5_part_12 (by omega) ?_
    refine mk_ldiv hx hb dX5_part_13 (by omega) (by omega) ?_
    refine lv_iload_n hx hb dX5_part_14 rfl (lv_at hl 0 rfl) ?_
    refine mk_i2l hx hb dX5_part_15 (by omega) ?_
    refine lv_iload_n hx hb dX5_part_16 rfl (lv_at hl 1 rfl) ?_
    refine mk_i2l hx hb dX5_part_17 (by omega) ?_
    refine mk_lmul hx hb dX5_part_18 ?_
    refine lv_iload_n hx hb dX5_part_19 rfl (lv_at hl 3 rfl) ?_
    refine mk_i2l hx hb dX5_part_20 (by omega) ?_
    refine mk_ldiv hx hb dX5_part_21 (by omega) (by omega) ?_
    refine mk_lsub hx hb dX5_part_22 ?_
    refine mk_l2i hx hb dX5_part_23 ?_
    exact mk_retI hx hb hr hlocks hW ⟨rfl, rfl⟩ dX5_part_24
  · skip
    refine mk_iconst hx hb (0) dX5_part_4 ?_
    exact mk_retI hx hb hr hlocks hW ⟨rfl, by rw [show q = 0 by omega]; simp⟩ dX5_part_5
end
section
set_option maxHeartbeats 400000 in
set_option maxRecDepth 100000 in
theorem c_X4_enter (l : Launch) (cg : Nat → ClassId) (D : va_G) (ad : Nat → Nat) (st : Nat → Nat → Int) (d f : Int) (mm : Nat) (hm : st 1 2 = mm) (h44 : mm < 4) : MV l yX4_enter wsX4_enter ({ frames := 1, cells := 0, slots := 0, locals := 20 }) D vwCl (TY cg) 28 (celL cg) ad st [.ref (ad 1), .int (iI d), .int (iI f)] (fun st1 => st1 = stC (stC (stC st 2 (fnU (st 2) mm d)) 3 (fnU (st 3) mm f)) 1 (fnU (st 1) 2 ((mm : Int) + 1))) := by
  refine mk_open (cc := cX4_enter) (maxL := 3) (ret := none) (by decide) rfl (Nat.le_of_ble_eq_true rfl) ?_
  intro p e s m args below meth c hx hb hml hr hown hts hlocks hK hN hargs ls hl hW
  have hown : s.vm.findClass RX4 = some m.cls := hown
  have hl : lv_has ls 3 [(0, .ref (ad 1)), (1, .int (iI d)), (2, .int (iI f))] := hl
  have inX4 : ∀ w ∈ wsX40, w ∈ wsX4_enter := by decide +kernel
  have fl9 := hts (.fieldLink RX4 9 "GainsReckoner$Splits" "day" "[I") (by decide +kernel)
  have fl18 := hts (.fieldLink RX4 18 "GainsReckoner$Splits" "size" "I") (by decide +kernel)
  have fl15 := hts (.fieldLink RX4 15 "GainsReckoner$Splits" "factor" "[I") (by decide +kernel)
  refine lv_aload_n hx hb dX4_enter_0 rfl (lv_at hl 0 rfl) ?_
  refine mk_goI (va_runV (As := []) (rest := []) ⟨hx, hb, hml, hown, hts⟩ (c_X4_isFull l cg D ad st mm hm (by omega)) (cwV 0 hts gX4_enter_X4_isFull rfl rfl rfl (by decide +kernel) ⟨Nat.le_of_ble_eq_true rfl, Nat.le_of_ble_eq_true rfl⟩) (mk_preV hK hN hW 1 (by decide) rfl rfl rfl) rfl rfl hl.1 rfl (lv_room (Nat.le_of_ble_eq_true rfl)) dX4_enter_1 ⟨Nat.zero_le _, Nat.zero_le _⟩) hW (fun r2 st1 hp1 H locs hW => ?_)
  obtain ⟨rfl, hp1⟩ := hp1
  refine mk_if_eq (tgt := 8) hx hb dX4_enter_4 (by decide) (by omega) (fun c_4 => ?_) (fun c_4 => ?_)
  · skip
    refine lv_aload_n hx hb dX4_enter_8 rfl (lv_at hl 0 rfl) ?_
    refine mk_get (ci := 4) (C := RX4) (T := TX4) (N := 3) hx hb hts inX4 hown hK hW 1 (by decide) rfl rfl 0 (by decide) fl9 (fun _ h9 => h9) rfl dX4_enter_9 ?_
    refine lv_aload_n hx hb dX4_enter_12 rfl (lv_at hl 0 rfl) ?_
    refine mk_get (ci := 4) (C := RX4) (T := TX4) (N := 3) hx hb hts inX4 hown hK hW 1 (by decide) rfl rfl 2 (by decide) fl18 (fun _ h9 => h9) rfl dX4_enter_13 ?_
    refine mk_sayi (y := ((mm : Nat) : Int)) hm ?_
    refine lv_iload_n hx hb dX4_enter_16 rfl (lv_at hl 1 rfl) ?_
    refine mk_iast hx hb hK hW 2 (by decide) (fun _ => rfl) 0 rfl (j := mm) rfl (by omega) (by decide) dX4_enter_17 (fun H locs hW => ?_)
    obtain ⟨st3, est3⟩ : ∃ z, z = stC st1 2 (fnU (st1 2) mm d) := ⟨_, rfl⟩
    rw [← est3] at hW
    refine lv_aload_n hx hb dX4_enter_18 rfl (lv_at hl 0 rfl) ?_
    refine mk_get (ci := 4) (C := RX4) (T := TX4) (N := 3) hx hb hts inX4 hown hK hW 1 (by decide) rfl rfl 1 (by decide) fl15 (fun _ h9 => h9) rfl dX4_enter_19 ?_
    refine lv_aload_n hx hb dX4_enter_22 rfl (lv_at hl 0 rfl) ?_
    refine mk_get (ci := 4) (C := RX4) (T := TX4) (N := 3) hx hb hts inX4 hown hK hW 1 (by decide) rfl rfl 2 (by decide) fl18 (fun _ h9 => h9) rfl dX4_enter_23 ?_
    refine mk_sayi (y := (st1 1 2)) (by rw [show st3 1 = st1 1 from by rw [est3]; exact stC_ne (by decide)]) ?_
    refine mk_sayi (y := ((mm : Nat) : Int)) hm ?_
    refine lv_iload_n hx hb dX4_enter_26 rfl (lv_at hl 2 rfl) ?_
    refine mk_iast hx hb hK hW 3 (by decide) (fun _ => rfl) 0 rfl (j := mm) rfl (by omega) (by decide) dX4_enter_27 (fun H locs hW => ?_)
    obtain ⟨st4, est4⟩ : ∃ z, z = stC st3 3 (fnU (st3 3) mm f) := ⟨_, rfl⟩
    rw [← est4] at hW
    refine lv_aload_n hx hb dX4_enter_28 rfl (lv_at hl 0 rfl) ?_
    refine lv_dup hx hb dX4_enter_29 rfl ?_
    refine mk_get (ci := 4) (C := RX4) (T := TX4) (N := 3) hx hb hts inX4 hown hK hW 1 (by decide) rfl rfl 2 (by decide) fl18 (fun _ h9 => h9) rfl dX4_enter_30 ?_
    refine mk_sayi (y := (st1 1 2)) (by rw [show st4 1 = st3 1 from by rw [est4]; exact stC_ne (by decide), show st3 1 = st1 1 from by rw [est3]; exact stC_ne (by decide)]) ?_
    refine mk_sayi (y := ((mm : Nat) : Int)) hm ?_
    refine mk_iconst hx hb (1) dX4_enter_33 ?_
    refine mk_iadd hx hb dX4_enter_34 ?_
    refine mk_put (ci := 4) (C := RX4) (T := TX4) (N := 3) hx hb hts inX4 tyX4 tyX4_ok nmX4 hown hK hW 1 (by decide) rfl rfl 2 (by decide) fl18 (fun _ h9 => h9) rfl (by decide +kernel) (by decide) rfl dX4_enter_35 (fun H locs hW => ?_)
    obtain ⟨st5, est5⟩ : ∃ z, z = stC st4 1 (fnU (st4 1) 2 (((mm : Nat) : Int) + 1)) := ⟨_, rfl⟩
    rw [← est5] at hW
    exact mk_retV hx hb hr hlocks hW (by subst est3; subst est4; subst est5; rfl) dX4_enter_38
  · skip
    exact absurd c_4 (by omega)
end
section
-- last part
theorem zz_end : True := trivial
end
