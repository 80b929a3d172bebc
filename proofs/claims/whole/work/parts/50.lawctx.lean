/-! the law's start: the classes, the rows' classes, the static rows -/
theorem law_ctx {s : State} {b : Nat} (hts : ∀ w ∈ lw_tbl, w.before #[Value.ref b] s = true) (hgv : (Jvm.Cond.and given_1 narrow_1).before #[Value.ref b] s = true) : ∃ g : GE, CT g (fun q : Nat => s.heap.size ≤ q) s ∧ NL s := by
  obtain ⟨c0, i0, hk0⟩ := u_known (C := RX0) (T := TX0) (N := 2) (n := 2) hts lin_wsX00 (hts (.instantiable RX0 2) (by decide +kernel))
  obtain ⟨c1, i1, hk1⟩ := u_known (C := RX1) (T := TX1) (N := 9) (n := 9) hts lin_wsX10 (hts (.instantiable RX1 9) (by decide +kernel))
  obtain ⟨c2, i2, hk2⟩ := u_known (C := RX2) (T := TX2) (N := 3) (n := 3) hts lin_wsX20 (hts (.instantiable RX2 3) (by decide +kernel))
  obtain ⟨c3, i3, hk3⟩ := u_known (C := RX3) (T := TX3) (N := 3) (n := 3) hts lin_wsX30 (hts (.instantiable RX3 3) (by decide +kernel))
  obtain ⟨c4, i4, hk4⟩ := u_known (C := RX4) (T := TX4) (N := 4) (n := 4) hts lin_wsX40 (hts (.instantiable RX4 4) (by decide +kernel))
  obtain ⟨c5, i5, hk5⟩ := u_known (C := RX5) (T := TX5) (N := 2) (n := 2) hts lin_wsX50 (hts (.instantiable RX5 2) (by decide +kernel))
  obtain ⟨c6, i6, hk6⟩ := u_known (C := RX6) (T := TX6) (N := 9) (n := 9) hts lin_wsX60 (hts (.instantiable RX6 9) (by decide +kernel))
  obtain ⟨c7, i7, hk7⟩ := u_known (C := RX7) (T := TX7) (N := 25) (n := 25) hts lin_wsX70 (hts (.instantiable RX7 25) (by decide +kernel))
  obtain ⟨aI, kaI, maI, e1aI, e2aI, e3aI⟩ := Cond.arrayClass_spec (hts (.arrayClass .int) (by decide +kernel))
  obtain ⟨aJ, kaJ, maJ, e1aJ, e2aJ, e3aJ⟩ := Cond.arrayClass_spec (hts (.arrayClass .long) (by decide +kernel))
  obtain ⟨aZ, kaZ, maZ, e1aZ, e2aZ, e3aZ⟩ := Cond.arrayClass_spec (hts (.arrayClass .boolean) (by decide +kernel))
  obtain ⟨maD, aD, kaD, e1aD, e2aD, e3aD, e4aD, e5aD⟩ := Cond.arrayOver_spec (hts (.arrayOver (.object RX1)) (by decide +kernel))
  obtain ⟨maB, aB, kaB, e1aB, e2aB, e3aB, e4aB, e5aB⟩ := Cond.arrayOver_spec (hts (.arrayOver (.object RX0)) (by decide +kernel))
  have hs := flat_of_before _ hgv
  have hA : ∀ a : Nat, a < s.heap.size → ¬ (fun q : Nat => s.heap.size ≤ q) a := fun a h => Nat.not_le.mpr h
  have qt0 : ∀ j, j < 8 → Cond.eq (.elem (.static RX4 "FIRST_STATE" "[I") (.int (Int32.ofNat j))) (.int (kIV j)) ∈ flatC (Jvm.Cond.and given_1 narrow_1) := by decide +kernel
  obtain ⟨t0, htt0, hTt0⟩ := va_Tof (tm := .static RX4 "FIRST_STATE" "[I") (ty := .int) (N := 8) (f := fun j => .int (kIV j)) (A := fun q : Nat => s.heap.size ≤ q) (by decide) (hs (.arrayOf (.static RX4 "FIRST_STATE" "[I") .int) (by decide +kernel)) (va_eqt (hs (.eq (.length (.static RX4 "FIRST_STATE" "[I")) (.int 8)) (by decide +kernel))) (fun j hj => va_eqt (hs _ (qt0 j hj))) hA
  have hZt0 := va_Zref (hts (.laysStatic RX4 "FIRST_STATE" "[I") (by decide +kernel)) (hts (.initialized RX4) (by decide +kernel)) htt0 hA
  have qt1 : ∀ j, j < 64 → Cond.eq (.elem (.static RX4 "ROUND_WORDS" "[I") (.int (Int32.ofNat j))) (.int (kRW j)) ∈ flatC (Jvm.Cond.and given_1 narrow_1) := by decide +kernel
  obtain ⟨t1, htt1, hTt1⟩ := va_Tof (tm := .static RX4 "ROUND_WORDS" "[I") (ty := .int) (N := 64) (f := fun j => .int (kRW j)) (A := fun q : Nat => s.heap.size ≤ q) (by decide) (hs (.arrayOf (.static RX4 "ROUND_WORDS" "[I") .int) (by decide +kernel)) (va_eqt (hs (.eq (.length (.static RX4 "ROUND_WORDS" "[I")) (.int 64)) (by decide +kernel))) (fun j hj => va_eqt (hs _ (qt1 j hj))) hA
  have hZt1 := va_Zref (hts (.laysStatic RX4 "ROUND_WORDS" "[I") (by decide +kernel)) (hts (.initialized RX4) (by decide +kernel)) htt1 hA
  have qt2 : ∀ j, j < 4 → Cond.eq (.elem (.static RX3 "EXPAND" "[I") (.int (Int32.ofNat j))) (.int (kEX j)) ∈ flatC (Jvm.Cond.and given_1 narrow_1) := by decide +kernel
  obtain ⟨t2, htt2, hTt2⟩ := va_Tof (tm := .static RX3 "EXPAND" "[I") (ty := .int) (N := 4) (f := fun j => .int (kEX j)) (A := fun q : Nat => s.heap.size ≤ q) (by decide) (hs (.arrayOf (.static RX3 "EXPAND" "[I") .int) (by decide +kernel)) (va_eqt (hs (.eq (.length (.static RX3 "EXPAND" "[I")) (.int 4)) (by decide +kernel))) (fun j hj => va_eqt (hs _ (qt2 j hj))) hA
  have hZt2 := va_Zref (hts (.laysStatic RX3 "EXPAND" "[I") (by decide +kernel)) (hts (.initialized RX3) (by decide +kernel)) htt2 hA
  refine ⟨((fun k => [c0, c1, c2, c3, c4, c5, c6, c7].getD k c0, fun k => [i0, i1, i2, i3, i4, i5, i6, i7].getD k i0), (fun k => [aI, aJ, aZ, aD, aB].getD k aI), fun k => [t0, t1, t2].getD k t0), ⟨⟨?_, ?_⟩, ⟨⟨hZt0, hTt0⟩, ⟨hZt1, hTt1⟩, hZt2, hTt2⟩, fun q h => h⟩, ?_⟩
  · intro k q hq
    match k, hq with
    | 0, hq => cases hq; exact hk0
    | 1, hq => cases hq; exact hk1
    | 2, hq => cases hq; exact hk2
    | 3, hq => cases hq; exact hk3
    | 4, hq => cases hq; exact hk4
    | 5, hq => cases hq; exact hk5
    | 6, hq => cases hq; exact hk6
    | 7, hq => cases hq; exact hk7
    | k + 8, hq => simp [vwCl] at hq
  · intro k q hq
    match k, hq with
    | 0, hq => cases hq; exact ⟨fun n z => ⟨(fun k h => by cases h), kaI, e2aI, maI, e3aI⟩, e1aI⟩
    | 1, hq => cases hq; exact ⟨fun n z => ⟨(fun k h => by cases h), kaJ, e2aJ, maJ, e3aJ⟩, e1aJ⟩
    | 2, hq => cases hq; exact ⟨fun n z => ⟨(fun k h => by cases h), kaZ, e2aZ, maZ, e3aZ⟩, e1aZ⟩
    | 3, hq => cases hq; exact ⟨fun n z => ⟨(fun k h => by cases h), kaD, e3aD, maD, e4aD⟩, kaD, maD, e3aD, e4aD, e1aD, e5aD⟩
    | 4, hq => cases hq; exact ⟨fun n z => ⟨(fun k h => by cases h), kaB, e3aB, maB, e4aB⟩, kaB, maB, e3aB, e4aB, e1aB, e5aB⟩
    | k + 5, hq => simp [tyG] at hq
  · exact ⟨⟨va_Nw.of rfl (hts (.methodLinkNest RX1 11 yX2_init RX6) (by decide +kernel)), va_Nw.of rfl (hts (.methodLinkNest RX1 20 yX3_init RX6) (by decide +kernel)), va_Nw.of rfl (hts (.methodLinkNest RX1 39 yX5_init RX6) (by decide +kernel)), va_Nw.of rfl (hts (.methodLinkNest RX2 9 yX4_init RX6) (by decide +kernel)), va_Nw.of rfl (hts (.methodLinkNest RX6 21 yX2_init RX6) (by decide +kernel)), va_Nw.of rfl (hts (.methodLinkNest RX6 38 yX0_init RX6) (by decide +kernel))⟩, va_AO.of (hts (.arrayOver (.object RX1)) (by decide +kernel)), va_AO.of (hts (.arrayOver (.object RX0)) (by decide +kernel))⟩
