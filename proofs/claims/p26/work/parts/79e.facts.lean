/-! what the start gives -/
theorem st_K {s : State} {b : Nat} (hts : ∀ w ∈ lw_tbl, w.before #[Value.ref b] s = true) : ∃ (D : va_G) (cI cR cS cL : ClassId), va_K D vwCl (cK cI cR cS cL) s := by
  obtain ⟨c0, i0, k0⟩ := u_known (C := RX0) (T := TX0) (N := 3) (n := 3) hts inX0 (hts (.instantiable RX0 3) (by decide +kernel))
  obtain ⟨c1, i1, k1⟩ := u_known (C := RX1) (T := TX1) (N := 6) (n := 6) hts inX1 (hts (.instantiable RX1 6) (by decide +kernel))
  obtain ⟨c2, i2, k2⟩ := u_known (C := RX2) (T := TX2) (N := 10) (n := 10) hts inX2 (hts (.instantiable RX2 10) (by decide +kernel))
  obtain ⟨c3, i3, k3⟩ := u_known (C := RX3) (T := TX3) (N := 3) (n := 3) hts inX3 (hts (.instantiable RX3 3) (by decide +kernel))
  obtain ⟨c4, i4, k4⟩ := u_known (C := RX4) (T := TX4) (N := 4) (n := 4) hts inX4 (hts (.instantiable RX4 4) (by decide +kernel))
  obtain ⟨c5, i5, k5⟩ := u_known (C := RX5) (T := TX5) (N := 4) (n := 4) hts inX5 (hts (.instantiable RX5 4) (by decide +kernel))
  obtain ⟨cI, kI, pI, e1, e2, e3⟩ := Cond.arrayClass_spec (hts (.arrayClass .int) (by decide +kernel))
  obtain ⟨pR, cR, kR, r1, -, r3, r4, r5⟩ := Cond.arrayOver_spec (hts (.arrayOver (.object "LadderClimb$Rig")) (by decide +kernel))
  obtain ⟨pS, cS, kS, q1, -, q3, q4, q5⟩ := Cond.arrayOver_spec (hts (.arrayOver (.object "LadderClimb$Site")) (by decide +kernel))
  refine ⟨(fun k => if k = 0 then c0 else if k = 1 then c1 else if k = 2 then c2 else if k = 3 then c3 else if k = 4 then c4 else c5, fun k => if k = 0 then i0 else if k = 1 then i1 else if k = 2 then i2 else if k = 3 then i3 else if k = 4 then i4 else i5), cI, cR, cS, cI, fun k q hq => ?_, fun k q hq => ?_⟩
  · match k, hq with
    | 0, hq => cases hq; exact k0
    | 1, hq => cases hq; exact k1
    | 2, hq => cases hq; exact k2
    | 3, hq => cases hq; exact k3
    | 4, hq => cases hq; exact k4
    | 5, hq => cases hq; exact k5
    | k + 6, hq => simp [vwCl] at hq
  · match k, hq with
    | 0, hq => cases hq; exact ⟨fun n z => ⟨fun k h => (by cases h), kI, e2, pI, e3⟩, e1⟩
    | 1, hq => cases hq; exact ⟨fun n z => ⟨fun k h => (by cases h), kR, r3, pR, r4⟩, kR, pR, r3, r4, r1, r5⟩
    | 2, hq => cases hq; exact ⟨fun n z => ⟨fun k h => (by cases h), kS, q3, pS, q4⟩, kS, pS, q3, q4, q1, q5⟩
    | k + 3, hq => simp [cK] at hq
theorem st_tab {s : State} {b : Nat} {A : Nat → Prop} (hts : ∀ w ∈ lw_tbl, w.before #[Value.ref b] s = true) (hf : ∀ c ∈ flatC (Jvm.Cond.and given_1 narrow_1), c.before #[Value.ref b] s = true) (hA : ∀ a : Nat, a < s.heap.size → ¬ A a) : (∃ t : Nat, va_Z "LadderClimb" "GROUND_PERCENTS" "[I" (.ref t) A s s.heap ∧ va_T .int t 4 (fun j => .int (([5, 25, 40, 60] : List Int32).getD j 0)) A s s.heap) ∧ (∃ t : Nat, va_Z "LadderClimb" "WALL_PERCENTS" "[I" (.ref t) A s s.heap ∧ va_T .int t 4 (fun j => .int (([0, 20, 45, 60] : List Int32).getD j 0)) A s s.heap) := by
  constructor
  · obtain ⟨t, ht, hT⟩ := va_Tof (tm := .static "LadderClimb" "GROUND_PERCENTS" "[I") (ty := .int) (N := 4) (f := fun j => .int (([5, 25, 40, 60] : List Int32).getD j 0)) (A := A) (by decide) (hf _ (by decide +kernel)) (va_eqt (hf (.eq (.length (.static "LadderClimb" "GROUND_PERCENTS" "[I")) (.int 4)) (by decide +kernel))) (fun j hj => by
      rcases (show j = 0 ∨ j = 1 ∨ j = 2 ∨ j = 3 by omega) with rfl | rfl | rfl | rfl
      · exact va_eqt (hf (.eq (.elem (.static "LadderClimb" "GROUND_PERCENTS" "[I") (.int 0)) (.int 5)) (by decide +kernel))
      · exact va_eqt (hf (.eq (.elem (.static "LadderClimb" "GROUND_PERCENTS" "[I") (.int 1)) (.int 25)) (by decide +kernel))
      · exact va_eqt (hf (.eq (.elem (.static "LadderClimb" "GROUND_PERCENTS" "[I") (.int 2)) (.int 40)) (by decide +kernel))
      · exact va_eqt (hf (.eq (.elem (.static "LadderClimb" "GROUND_PERCENTS" "[I") (.int 3)) (.int 60)) (by decide +kernel))) hA
    exact ⟨t, va_Zref (hts (.laysStatic "LadderClimb" "GROUND_PERCENTS" "[I") (by decide +kernel)) (hts (.initialized "LadderClimb") (by decide +kernel)) ht hA, hT⟩
  · obtain ⟨t, ht, hT⟩ := va_Tof (tm := .static "LadderClimb" "WALL_PERCENTS" "[I") (ty := .int) (N := 4) (f := fun j => .int (([0, 20, 45, 60] : List Int32).getD j 0)) (A := A) (by decide) (hf _ (by decide +kernel)) (va_eqt (hf (.eq (.length (.static "LadderClimb" "WALL_PERCENTS" "[I")) (.int 4)) (by decide +kernel))) (fun j hj => by
      rcases (show j = 0 ∨ j = 1 ∨ j = 2 ∨ j = 3 by omega) with rfl | rfl | rfl | rfl
      · exact va_eqt (hf (.eq (.elem (.static "LadderClimb" "WALL_PERCENTS" "[I") (.int 0)) (.int 0)) (by decide +kernel))
      · exact va_eqt (hf (.eq (.elem (.static "LadderClimb" "WALL_PERCENTS" "[I") (.int 1)) (.int 20)) (by decide +kernel))
      · exact va_eqt (hf (.eq (.elem (.static "LadderClimb" "WALL_PERCENTS" "[I") (.int 2)) (.int 45)) (by decide +kernel))
      · exact va_eqt (hf (.eq (.elem (.static "LadderClimb" "WALL_PERCENTS" "[I") (.int 3)) (.int 60)) (by decide +kernel))) hA
    exact ⟨t, va_Zref (hts (.laysStatic "LadderClimb" "WALL_PERCENTS" "[I") (by decide +kernel)) (hts (.initialized "LadderClimb") (by decide +kernel)) ht hA, hT⟩
theorem st_str {s : State} {b k : Nat} {tx : String} (h1 : (Cond.stringRef RX5 k tx).before #[Value.ref b] s = true) (h2 : (Cond.exactly (.string RX5 k) "java/lang/String").before #[Value.ref b] s = true) : ∃ a : Nat, vk_R RX5 k tx a s := by
  obtain ⟨a, c, cell, k2, ha, -⟩ := Cond.exactly_spec h2
  exact ⟨a, vk_R.of h1 ha⟩
theorem st_nc {s : State} {b : Nat} (hf : ∀ c ∈ flatC (Jvm.Cond.and given_1 narrow_1), c.before #[Value.ref b] s = true) : zNC s := ⟨va_Nc.of (hf (.not (.castable "java/lang/IllegalArgumentException" "java/lang/IndexOutOfBoundsException")) (by decide +kernel)), va_Nc.of (hf (.not (.castable "java/lang/IllegalStateException" "java/lang/IndexOutOfBoundsException")) (by decide +kernel)), va_Nc.of (hf (.not (.castable "java/lang/IllegalStateException" "java/lang/IllegalArgumentException")) (by decide +kernel))⟩
theorem st_ao {s : State} {b : Nat} (hts : ∀ w ∈ lw_tbl, w.before #[Value.ref b] s = true) : zAO s := ⟨va_AO.of (hts (.arrayOver (.object "LadderClimb$Rig")) (by decide +kernel)), va_AO.of (hts (.arrayOver (.object "LadderClimb$Site")) (by decide +kernel))⟩
theorem st_tw {s : State} {b : Nat} (hts : ∀ w ∈ lw_tbl, w.before #[Value.ref b] s = true) : ∀ w ∈ zTW, w.before #[] s = true := by
  have h1 := va_Nw.of (w := .castable "java/lang/IndexOutOfBoundsException" "java/lang/IndexOutOfBoundsException") rfl (hts _ (by decide +kernel))
  have h2 := va_Nw.of (w := .castable "java/lang/IllegalArgumentException" "java/lang/IllegalArgumentException") rfl (hts _ (by decide +kernel))
  have h3 := va_Nw.of (w := .castable "java/lang/IllegalStateException" "java/lang/IllegalStateException") rfl (hts _ (by decide +kernel))
  have h4 := va_Nw.of (w := .declares (Bundle.initS "java/lang/RuntimeException")) rfl (hts _ (by decide +kernel))
  have h5 := va_Nw.of (w := .declares (Bundle.initS "java/lang/Exception")) rfl (hts _ (by decide +kernel))
  have h6 := va_Nw.of (w := .declares (Bundle.initS Bundle.tN)) rfl (hts _ (by decide +kernel))
  intro w hw
  simp only [zTW, List.mem_cons, List.not_mem_nil, or_false] at hw
  rcases hw with rfl | rfl | rfl | rfl | rfl | rfl
  · exact h1
  · exact h2
  · exact h3
  · exact h4
  · exact h5
  · exact h6
theorem st_Z {s : State} {b : Nat} {A : Nat → Prop} (hts : ∀ w ∈ lw_tbl, w.before #[Value.ref b] s = true) (hf : ∀ c ∈ flatC (Jvm.Cond.and given_1 narrow_1), c.before #[Value.ref b] s = true) (hA : ∀ a : Nat, a < s.heap.size → ¬ A a) : zSK A s s.heap := by
  obtain ⟨t1, t2⟩ := st_tab hts hf hA
  refine ⟨t1, t2, vx_Zqof (hts (.laysStatic Bundle.tN "UNASSIGNED_STACK" Bundle.steD) (by decide +kernel)) (hts (.initialized Bundle.tN) (by decide +kernel)) (hf (.isRef (.static Bundle.tN "UNASSIGNED_STACK" Bundle.steD)) (by decide +kernel)) hA, vx_Zqof (hts (.laysStatic Bundle.tN "SUPPRESSED_SENTINEL" Bundle.listD) (by decide +kernel)) (hts (.initialized Bundle.tN) (by decide +kernel)) (hf (.isRef (.static Bundle.tN "SUPPRESSED_SENTINEL" Bundle.listD)) (by decide +kernel)) hA, ?_, ?_, ?_, ?_, ?_, ?_, ?_, ?_, ?_, ?_, ?_, ?_, ?_, ?_, st_tw hts⟩
  · exact st_str (hts _ (by decide +kernel)) (hf _ (by decide +kernel))
  · exact st_str (hts _ (by decide +kernel)) (hf _ (by decide +kernel))
  · exact st_str (hts _ (by decide +kernel)) (hf _ (by decide +kernel))
  · exact st_str (hts _ (by decide +kernel)) (hf _ (by decide +kernel))
  · exact st_str (hts _ (by decide +kernel)) (hf _ (by decide +kernel))
  · exact st_str (hts _ (by decide +kernel)) (hf _ (by decide +kernel))
  · exact st_str (hts _ (by decide +kernel)) (hf _ (by decide +kernel))
  · exact st_str (hts _ (by decide +kernel)) (hf _ (by decide +kernel))
  · exact va_Nw.of rfl (hts _ (by decide +kernel))
  · exact va_Nw.of rfl (hts _ (by decide +kernel))
  · exact va_Nw.of rfl (hts _ (by decide +kernel))
  · exact va_Nw.of rfl (hts _ (by decide +kernel))
  · exact va_Nw.of rfl (hts _ (by decide +kernel))
  · exact va_Nw.of rfl (hts _ (by decide +kernel))
