-- the start: what the tables say
section TABS
variable {s : State} {b : Nat}
theorem tb_D (hts : ∀ w ∈ lw_tbl, w.before #[Value.ref b] s = true) : ∃ D : va_G, ∀ (k : Nat) (q : vw_C), vwCl[k]? = some q → u_Kn s q.1 q.2.1 q.2.2 (D.1 k) (D.2 k) := by
  obtain ⟨c0, i0, k0⟩ := u_known (C := RX0) (T := TX0) (N := 7) (n := 7) hts inX0 (hts (.instantiable RX0 7) (by decide +kernel))
  obtain ⟨c1, i1, k1⟩ := u_known (C := RX1) (T := TX1) (N := 4) (n := 4) hts inX1 (hts (.instantiable RX1 4) (by decide +kernel))
  obtain ⟨c2, i2, k2⟩ := u_known (C := RX2) (T := TX2) (N := 7) (n := 7) hts inX2 (hts (.instantiable RX2 7) (by decide +kernel))
  obtain ⟨c3, i3, k3⟩ := u_known (C := RX3) (T := TX3) (N := 10) (n := 10) hts inX3 (hts (.instantiable RX3 10) (by decide +kernel))
  obtain ⟨c4, i4, k4⟩ := u_known (C := RX4) (T := TX4) (N := 3) (n := 3) hts inX4 (hts (.instantiable RX4 3) (by decide +kernel))
  obtain ⟨c5, i5, k5⟩ := u_known (C := RX5) (T := TX5) (N := 4) (n := 4) hts inX5 (hts (.instantiable RX5 4) (by decide +kernel))
  refine ⟨(fun k => match k with | 0 => c0 | 1 => c1 | 2 => c2 | 3 => c3 | 4 => c4 | _ => c5, fun k => match k with | 0 => i0 | 1 => i1 | 2 => i2 | 3 => i3 | 4 => i4 | _ => i5), ?_⟩
  intro k q hq
  match k, hq with
  | 0, hq => cases hq; exact k0
  | 1, hq => cases hq; exact k1
  | 2, hq => cases hq; exact k2
  | 3, hq => cases hq; exact k3
  | 4, hq => cases hq; exact k4
  | 5, hq => cases hq; exact k5
  | k + 6, hq => simp at hq
theorem tb_T (hts : ∀ w ∈ lw_tbl, w.before #[Value.ref b] s = true) : ∃ cg : Nat → ClassId, ∀ (k : Nat) (q : ClassId × FieldType), (TY cg)[k]? = some q → ArrOfT s q.1 q.2 ∧ va_RA s q.1 q.2 := by
  obtain ⟨cI, kI, pI, f1, f2, f3⟩ := Cond.arrayClass_spec (hts (.arrayClass .int) (by decide +kernel))
  obtain ⟨cZ, kZ, pZ, g1, g2, g3⟩ := Cond.arrayClass_spec (hts (.arrayClass .boolean) (by decide +kernel))
  obtain ⟨cJ, kJ, pJ, h1, h2, h3⟩ := Cond.arrayClass_spec (hts (.arrayClass .byte) (by decide +kernel))
  obtain ⟨pQ, cQ, kQ, j1, -, j3, j4, j5⟩ := Cond.arrayOver_spec (hts (.arrayOver (.object "GainsReckoner$Ledger")) (by decide +kernel))
  refine ⟨fun k => match k with | 0 => cI | 1 => cZ | 2 => cJ | _ => cQ, ?_⟩
  intro k q hq
  match k, hq with
  | 0, hq => cases hq; exact ⟨fun n z => ⟨fun k h => (by cases h), kI, f2, pI, f3⟩, f1⟩
  | 1, hq => cases hq; exact ⟨fun n z => ⟨fun k h => (by cases h), kZ, g2, pZ, g3⟩, g1⟩
  | 2, hq => cases hq; exact ⟨fun n z => ⟨fun k h => (by cases h), kJ, h2, pJ, h3⟩, h1⟩
  | 3, hq => cases hq; exact ⟨fun n z => ⟨fun k h => (by cases h), kQ, j3, pQ, j4⟩, kQ, pQ, j3, j4, j1, j5⟩
  | k + 4, hq => simp at hq
set_option maxRecDepth 20000 in
theorem tb_f : ∀ q ∈ nestF, Cond.fieldLinkNest q.1 q.2.1 q.2.2.1 q.2.2.2.1 q.2.2.2.2 "GainsReckoner" ∈ lw_tbl := by decide +kernel
set_option maxRecDepth 20000 in
theorem tb_m : ∀ q ∈ nestM, Cond.methodLinkNest q.1 q.2.1 q.2.2 "GainsReckoner" ∈ lw_tbl := by decide +kernel
theorem tb_N (hts : ∀ w ∈ lw_tbl, w.before #[Value.ref b] s = true) : NW s :=
  ⟨fun q hq => va_Nw.of rfl (hts _ (tb_f q hq)), fun q hq => va_Nw.of rfl (hts _ (tb_m q hq))⟩
set_option maxRecDepth 20000 in
theorem tb_xB : ∀ w ∈ xB, w ∈ lw_tbl := by decide +kernel
set_option maxRecDepth 20000 in
theorem tb_xS : ∀ q ∈ xS, Cond.stringRef RX5 q.1 q.2 ∈ lw_tbl := by decide +kernel
theorem tb_xK (hts : ∀ w ∈ lw_tbl, w.before #[Value.ref b] s = true) : xK s := by
  refine ⟨fun w hw => ?_, fun q hq => ?_⟩
  · have h1 := hts w (tb_xB w hw)
    simp only [xB, List.mem_cons, List.not_mem_nil, or_false] at hw
    rcases hw with rfl | rfl | rfl | rfl | rfl | rfl <;> exact va_tabs rfl rfl h1
  · have h1 := hts _ (tb_xS q hq)
    obtain ⟨c5, i5, k5⟩ := u_known (C := RX5) (T := TX5) (N := 4) (n := 4) hts inX5 (hts (.instantiable RX5 4) (by decide +kernel))
    have h2 : (Cond.stringRef RX5 q.1 q.2).before #[] s = true := by first | exact h1 | simpa [Cond.before, Cond.holds, Cond.value] using h1
    obtain ⟨-, -, -, sa, -, -, -, -, -, hev⟩ := Cond.stringRef_spec k5.2.1 h2
    exact ⟨sa, h2, hev⟩
theorem tb_xZ (hts : ∀ w ∈ lw_tbl, w.before #[Value.ref b] s = true) (hgv : (Jvm.Cond.and given_1 narrow_1).before #[Value.ref b] s = true) : xZ (fun q => s.heap.size ≤ q) s s.heap := by
  have hs := flat_of_before _ hgv
  exact ⟨vx_Zqof (hts (.laysStatic Bundle.tN "UNASSIGNED_STACK" Bundle.steD) (by decide +kernel)) (hts (.initialized Bundle.tN) (by decide +kernel)) (hs (.isRef (.static Bundle.tN "UNASSIGNED_STACK" Bundle.steD)) (by decide +kernel)) (fun a h => Nat.not_le.mpr h), vx_Zqof (hts (.laysStatic Bundle.tN "SUPPRESSED_SENTINEL" Bundle.listD) (by decide +kernel)) (hts (.initialized Bundle.tN) (by decide +kernel)) (hs (.isRef (.static Bundle.tN "SUPPRESSED_SENTINEL" Bundle.listD)) (by decide +kernel)) (fun a h => Nat.not_le.mpr h)⟩
theorem tb_xN (hgv : (Jvm.Cond.and given_1 narrow_1).before #[Value.ref b] s = true) : xN s := by
  have hs := flat_of_before _ hgv
  exact ⟨va_Nc.of (hs (.not (.castable xE2 xE1)) (by decide +kernel)), va_Nc.of (hs (.not (.castable xE3 xE1)) (by decide +kernel)), va_Nc.of (hs (.not (.castable xE3 xE2)) (by decide +kernel))⟩
end TABS
