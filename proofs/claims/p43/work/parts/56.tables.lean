/-! what the tables and the statics give at the law's entry -/
set_option maxHeartbeats 4000000 in
set_option maxRecDepth 100000 in
theorem lw_tabs {s : State} {b : Nat} (hts : ∀ w ∈ lw_tbl, w.before #[Value.ref b] s = true) : ∃ (D : va_G) (cI cL cP : ClassId), kQ D cI cL cP s := by
  obtain ⟨c0, i0, k0⟩ := u_known (C := RX0) (T := TX0) (N := 11) (n := 11) hts inX0 (hts (.instantiable RX0 11) (List.mem_of_getElem? (i := 163) (by decide +kernel)))
  obtain ⟨c1, i1, k1⟩ := u_known (C := RX1) (T := TX1) (N := 2) (n := 2) hts inX1 (hts (.instantiable RX1 2) (List.mem_of_getElem? (i := 112) (by decide +kernel)))
  obtain ⟨c2, i2, k2⟩ := u_known (C := RX2) (T := TX2) (N := 5) (n := 5) hts inX2 (hts (.instantiable RX2 5) (List.mem_of_getElem? (i := 221) (by decide +kernel)))
  obtain ⟨c3, i3, k3⟩ := u_known (C := RX3) (T := TX3) (N := 3) (n := 3) hts inX3 (hts (.instantiable RX3 3) (List.mem_of_getElem? (i := 94) (by decide +kernel)))
  obtain ⟨c4, i4, k4⟩ := u_known (C := RX4) (T := TX4) (N := 3) (n := 3) hts inX4 (hts (.instantiable RX4 3) (List.mem_of_getElem? (i := 277) (by decide +kernel)))
  obtain ⟨c5, i5, k5⟩ := u_known (C := RX5) (T := TX5) (N := 8) (n := 8) hts inX5 (hts (.instantiable RX5 8) (List.mem_of_getElem? (i := 43) (by decide +kernel)))
  obtain ⟨c6, i6, k6⟩ := u_known (C := RX6) (T := TX6) (N := 7) (n := 7) hts inX6 (hts (.instantiable RX6 7) (List.mem_of_getElem? (i := 130) (by decide +kernel)))
  obtain ⟨c7, i7, k7⟩ := u_known (C := RX7) (T := TX7) (N := 1) (n := 1) hts inX7 (hts (.instantiable RX7 1) (List.mem_of_getElem? (i := 49) (by decide +kernel)))
  obtain ⟨c8, i8, k8⟩ := u_known (C := RX8) (T := TX8) (N := 3) (n := 3) hts inX8 (hts (.instantiable RX8 3) (List.mem_of_getElem? (i := 64) (by decide +kernel)))
  obtain ⟨c9, i9, k9⟩ := u_known (C := RX9) (T := TX9) (N := 7) (n := 7) hts inX9 (hts (.instantiable RX9 7) (List.mem_of_getElem? (i := 297) (by decide +kernel)))
  obtain ⟨c10, i10, k10⟩ := u_known (C := RX10) (T := TX10) (N := 4) (n := 4) hts inX10 (hts (.instantiable RX10 4) (List.mem_of_getElem? (i := 35) (by decide +kernel)))
  obtain ⟨cI, kI, mI, a1, a2, a3⟩ := Cond.arrayClass_spec (hts (.arrayClass .int) (List.mem_of_getElem? (i := 62) (by decide +kernel)))
  obtain ⟨cL, kL, mL, b1, b2, b3⟩ := Cond.arrayClass_spec (hts (.arrayClass .long) (List.mem_of_getElem? (i := 128) (by decide +kernel)))
  obtain ⟨mP, cP, kP, d1, -, d3, d4, d5⟩ := Cond.arrayOver_spec (hts (.arrayOver (.object "HeatPumpPlant$Plant")) (List.mem_of_getElem? (i := 283) (by decide +kernel)))
  refine ⟨(fun k => if k = 0 then c0 else if k = 1 then c1 else if k = 2 then c2 else if k = 3 then c3 else if k = 4 then c4 else if k = 5 then c5 else if k = 6 then c6 else if k = 7 then c7 else if k = 8 then c8 else if k = 9 then c9 else c10, fun k => if k = 0 then i0 else if k = 1 then i1 else if k = 2 then i2 else if k = 3 then i3 else if k = 4 then i4 else if k = 5 then i5 else if k = 6 then i6 else if k = 7 then i7 else if k = 8 then i8 else if k = 9 then i9 else i10), cI, cL, cP, ⟨fun k q hq => ?_, fun k q hk => ?_⟩, fun q hq => ?_⟩
  · match k, hq with
    | 0, hq => cases hq; exact k0
    | 1, hq => cases hq; exact k1
    | 2, hq => cases hq; exact k2
    | 3, hq => cases hq; exact k3
    | 4, hq => cases hq; exact k4
    | 5, hq => cases hq; exact k5
    | 6, hq => cases hq; exact k6
    | 7, hq => cases hq; exact k7
    | 8, hq => cases hq; exact k8
    | 9, hq => cases hq; exact k9
    | 10, hq => cases hq; exact k10
    | k + 11, hq => simp [vwCl] at hq
  · match k, hk with
    | 0, hk => cases hk; exact ⟨fun _ _ => ⟨fun k h => (by cases h), kI, a2, mI, a3⟩, a1⟩
    | 1, hk => cases hk; exact ⟨fun _ _ => ⟨fun k h => (by cases h), kL, b2, mL, b3⟩, b1⟩
    | 2, hk => cases hk; exact ⟨fun _ _ => ⟨fun k h => (by cases h), kP, d3, mP, d4⟩, kP, mP, d3, d4, d1, d5⟩
    | k + 3, hk => simp [tyL] at hk
  · revert q
    exact List.forall_mem_cons.mpr ⟨va_Nw.of rfl (hts (.methodLinkNest RX8 21 yX10_setAll "HeatPumpPlant") (List.mem_of_getElem? (i := 69) (by decide +kernel))), List.forall_mem_cons.mpr ⟨va_Nw.of rfl (hts (.methodLinkNest RX8 25 yX10_replace "HeatPumpPlant") (List.mem_of_getElem? (i := 72) (by decide +kernel))), List.forall_mem_cons.mpr ⟨va_Nw.of rfl (hts (.methodLinkNest RX3 22 yX10_replace "HeatPumpPlant") (List.mem_of_getElem? (i := 99) (by decide +kernel))), List.forall_mem_cons.mpr ⟨va_Nw.of rfl (hts (.methodLinkNest RX5 55 yX2_init "HeatPumpPlant") (List.mem_of_getElem? (i := 222) (by decide +kernel))), List.forall_mem_cons.mpr ⟨va_Nw.of rfl (hts (.methodLinkNest RX5 64 yX10_copyRow "HeatPumpPlant") (List.mem_of_getElem? (i := 360) (by decide +kernel))), List.forall_mem_cons.mpr ⟨va_Nw.of rfl (hts (.methodLinkNest RX8 29 yX10_copyRow "HeatPumpPlant") (List.mem_of_getElem? (i := 367) (by decide +kernel))), List.forall_mem_cons.mpr ⟨va_Nw.of rfl (hts (.methodLinkNest RX3 26 yX10_copyRow "HeatPumpPlant") (List.mem_of_getElem? (i := 372) (by decide +kernel))), List.forall_mem_cons.mpr ⟨va_Nw.of rfl (hts (.methodLinkNest RX6 34 yX10_copyRow "HeatPumpPlant") (List.mem_of_getElem? (i := 381) (by decide +kernel))), List.forall_mem_cons.mpr ⟨va_Nw.of rfl (hts (.methodLinkNest RX0 21 yX10_copyRow "HeatPumpPlant") (List.mem_of_getElem? (i := 386) (by decide +kernel))), List.forall_mem_cons.mpr ⟨va_Nw.of rfl (hts (.methodLinkNest RX7 28 yX10_replace "HeatPumpPlant") (List.mem_of_getElem? (i := 801) (by decide +kernel))), List.forall_mem_cons.mpr ⟨va_Nw.of rfl (hts (.methodLinkNest RX7 22 yX10_elementOr "HeatPumpPlant") (List.mem_of_getElem? (i := 505) (by decide +kernel))), List.forall_mem_cons.mpr ⟨va_Nw.of rfl (hts (.methodLinkNest RX5 95 yX10_elementOr "HeatPumpPlant") (List.mem_of_getElem? (i := 506) (by decide +kernel))), List.forall_mem_cons.mpr ⟨va_Nw.of rfl (hts (.methodLinkNest RX5 101 yX10_div "HeatPumpPlant") (List.mem_of_getElem? (i := 508) (by decide +kernel))), List.forall_mem_cons.mpr ⟨va_Nw.of rfl (hts (.methodLinkNest RX3 34 yX10_elementOr "HeatPumpPlant") (List.mem_of_getElem? (i := 530) (by decide +kernel))), List.forall_mem_cons.mpr ⟨va_Nw.of rfl (hts (.methodLinkNest RX3 46 yX10_div "HeatPumpPlant") (List.mem_of_getElem? (i := 531) (by decide +kernel))), List.forall_mem_cons.mpr ⟨va_Nw.of rfl (hts (.methodLinkNest RX1 23 yX10_div "HeatPumpPlant") (List.mem_of_getElem? (i := 550) (by decide +kernel))), List.forall_mem_cons.mpr ⟨va_Nw.of rfl (hts (.methodLinkNest RX6 67 yX10_elementOr "HeatPumpPlant") (List.mem_of_getElem? (i := 699) (by decide +kernel))), List.forall_mem_cons.mpr ⟨va_Nw.of rfl (hts (.methodLinkNest RX6 71 yX10_replace "HeatPumpPlant") (List.mem_of_getElem? (i := 700) (by decide +kernel))), List.forall_mem_cons.mpr ⟨va_Nw.of rfl (hts (.methodLinkNest RX0 53 yX10_elementOr "HeatPumpPlant") (List.mem_of_getElem? (i := 705) (by decide +kernel))), List.forall_mem_cons.mpr ⟨va_Nw.of rfl (hts (.methodLinkNest RX0 57 yX10_replace "HeatPumpPlant") (List.mem_of_getElem? (i := 706) (by decide +kernel))), List.forall_mem_cons.mpr ⟨va_Nw.of rfl (hts (.methodLinkNest RX9 19 yX10_replace "HeatPumpPlant") (List.mem_of_getElem? (i := 451) (by decide +kernel))), List.forall_mem_cons.mpr ⟨va_Nw.of rfl (hts (.methodLinkNest RX9 74 yX10_elementOr "HeatPumpPlant") (List.mem_of_getElem? (i := 429) (by decide +kernel))), fun _ h => absurd h List.not_mem_nil⟩⟩⟩⟩⟩⟩⟩⟩⟩⟩⟩⟩⟩⟩⟩⟩⟩⟩⟩⟩⟩⟩
set_option maxHeartbeats 4000000 in
set_option maxRecDepth 100000 in
theorem lw_stLEAST {s : State} {b : Nat} (hts : ∀ w ∈ lw_tbl, w.before #[Value.ref b] s = true) (hgv : (Jvm.Cond.and given_1 narrow_1).before #[Value.ref b] s = true) : ∃ t : Nat, va_Z RX7 "LEAST" "[I" (.ref t) (fun q : Nat => s.heap.size ≤ q) s s.heap ∧ va_T .int t 17 (fun j => .int (sLE j)) (fun q : Nat => s.heap.size ≤ q) s s.heap := by
  have hs := flat_of_before _ hgv
  have hA : ∀ a : Nat, a < s.heap.size → ¬ (fun q : Nat => s.heap.size ≤ q) a := fun a h => Nat.not_le.mpr h
  obtain ⟨t, e, hT⟩ := va_Tof (ty := .int) (tm := (.static RX7 "LEAST" "[I")) (N := 17) (f := fun j => .int (sLE j)) (A := fun q : Nat => s.heap.size ≤ q) (by decide) (hs (Cond.arrayOf (.static RX7 "LEAST" "[I") .int) (by decide +kernel)) (va_eqt (z := 17) (hs (Cond.eq (.length (.static RX7 "LEAST" "[I")) (.int 17)) (by decide +kernel))) (fun j hj => by
    rcases (show j = 0 ∨ j = 1 ∨ j = 2 ∨ j = 3 ∨ j = 4 ∨ j = 5 ∨ j = 6 ∨ j = 7 ∨ j = 8 ∨ j = 9 ∨ j = 10 ∨ j = 11 ∨ j = 12 ∨ j = 13 ∨ j = 14 ∨ j = 15 ∨ j = 16 by omega) with rfl | rfl | rfl | rfl | rfl | rfl | rfl | rfl | rfl | rfl | rfl | rfl | rfl | rfl | rfl | rfl | rfl
    · exact va_eqt (z := 0) (hs (Cond.eq (.elem (.static RX7 "LEAST" "[I") (.int 0)) (.int (0))) (by decide +kernel))
    · exact va_eqt (z := 0) (hs (Cond.eq (.elem (.static RX7 "LEAST" "[I") (.int 1)) (.int (0))) (by decide +kernel))
    · exact va_eqt (z := 1) (hs (Cond.eq (.elem (.static RX7 "LEAST" "[I") (.int 2)) (.int (1))) (by decide +kernel))
    · exact va_eqt (z := 1) (hs (Cond.eq (.elem (.static RX7 "LEAST" "[I") (.int 3)) (.int (1))) (by decide +kernel))
    · exact va_eqt (z := 300) (hs (Cond.eq (.elem (.static RX7 "LEAST" "[I") (.int 4)) (.int (300))) (by decide +kernel))
    · exact va_eqt (z := 0) (hs (Cond.eq (.elem (.static RX7 "LEAST" "[I") (.int 5)) (.int (0))) (by decide +kernel))
    · exact va_eqt (z := 150) (hs (Cond.eq (.elem (.static RX7 "LEAST" "[I") (.int 6)) (.int (150))) (by decide +kernel))
    · exact va_eqt (z := 500) (hs (Cond.eq (.elem (.static RX7 "LEAST" "[I") (.int 7)) (.int (500))) (by decide +kernel))
    · exact va_eqt (z := 0) (hs (Cond.eq (.elem (.static RX7 "LEAST" "[I") (.int 8)) (.int (0))) (by decide +kernel))
    · exact va_eqt (z := -50) (hs (Cond.eq (.elem (.static RX7 "LEAST" "[I") (.int 9)) (.int (-50))) (by decide +kernel))
    · exact va_eqt (z := 1) (hs (Cond.eq (.elem (.static RX7 "LEAST" "[I") (.int 10)) (.int (1))) (by decide +kernel))
    · exact va_eqt (z := 1) (hs (Cond.eq (.elem (.static RX7 "LEAST" "[I") (.int 11)) (.int (1))) (by decide +kernel))
    · exact va_eqt (z := 0) (hs (Cond.eq (.elem (.static RX7 "LEAST" "[I") (.int 12)) (.int (0))) (by decide +kernel))
    · exact va_eqt (z := 0) (hs (Cond.eq (.elem (.static RX7 "LEAST" "[I") (.int 13)) (.int (0))) (by decide +kernel))
    · exact va_eqt (z := 0) (hs (Cond.eq (.elem (.static RX7 "LEAST" "[I") (.int 14)) (.int (0))) (by decide +kernel))
    · exact va_eqt (z := 100) (hs (Cond.eq (.elem (.static RX7 "LEAST" "[I") (.int 15)) (.int (100))) (by decide +kernel))
    · exact va_eqt (z := 1) (hs (Cond.eq (.elem (.static RX7 "LEAST" "[I") (.int 16)) (.int (1))) (by decide +kernel))) hA
  exact ⟨t, va_Zref (hts (.laysStatic RX7 "LEAST" "[I") (List.mem_of_getElem? (i := 794) (by decide +kernel))) (hts (.initialized RX7) (List.mem_of_getElem? (i := 24) (by decide +kernel))) e hA, hT⟩
set_option maxHeartbeats 4000000 in
set_option maxRecDepth 100000 in
theorem lw_stMOST {s : State} {b : Nat} (hts : ∀ w ∈ lw_tbl, w.before #[Value.ref b] s = true) (hgv : (Jvm.Cond.and given_1 narrow_1).before #[Value.ref b] s = true) : ∃ t : Nat, va_Z RX7 "MOST" "[I" (.ref t) (fun q : Nat => s.heap.size ≤ q) s s.heap ∧ va_T .int t 17 (fun j => .int (sMO j)) (fun q : Nat => s.heap.size ≤ q) s s.heap := by
  have hs := flat_of_before _ hgv
  have hA : ∀ a : Nat, a < s.heap.size → ¬ (fun q : Nat => s.heap.size ≤ q) a := fun a h => Nat.not_le.mpr h
  obtain ⟨t, e, hT⟩ := va_Tof (ty := .int) (tm := (.static RX7 "MOST" "[I")) (N := 17) (f := fun j => .int (sMO j)) (A := fun q : Nat => s.heap.size ≤ q) (by decide) (hs (Cond.arrayOf (.static RX7 "MOST" "[I") .int) (by decide +kernel)) (va_eqt (z := 17) (hs (Cond.eq (.length (.static RX7 "MOST" "[I")) (.int 17)) (by decide +kernel))) (fun j hj => by
    rcases (show j = 0 ∨ j = 1 ∨ j = 2 ∨ j = 3 ∨ j = 4 ∨ j = 5 ∨ j = 6 ∨ j = 7 ∨ j = 8 ∨ j = 9 ∨ j = 10 ∨ j = 11 ∨ j = 12 ∨ j = 13 ∨ j = 14 ∨ j = 15 ∨ j = 16 by omega) with rfl | rfl | rfl | rfl | rfl | rfl | rfl | rfl | rfl | rfl | rfl | rfl | rfl | rfl | rfl | rfl | rfl
    · exact va_eqt (z := 60) (hs (Cond.eq (.elem (.static RX7 "MOST" "[I") (.int 0)) (.int (60))) (by decide +kernel))
    · exact va_eqt (z := 60) (hs (Cond.eq (.elem (.static RX7 "MOST" "[I") (.int 1)) (.int (60))) (by decide +kernel))
    · exact va_eqt (z := 10) (hs (Cond.eq (.elem (.static RX7 "MOST" "[I") (.int 2)) (.int (10))) (by decide +kernel))
    · exact va_eqt (z := 100) (hs (Cond.eq (.elem (.static RX7 "MOST" "[I") (.int 3)) (.int (100))) (by decide +kernel))
    · exact va_eqt (z := 700) (hs (Cond.eq (.elem (.static RX7 "MOST" "[I") (.int 4)) (.int (700))) (by decide +kernel))
    · exact va_eqt (z := 150) (hs (Cond.eq (.elem (.static RX7 "MOST" "[I") (.int 5)) (.int (150))) (by decide +kernel))
    · exact va_eqt (z := 500) (hs (Cond.eq (.elem (.static RX7 "MOST" "[I") (.int 6)) (.int (500))) (by decide +kernel))
    · exact va_eqt (z := 20000) (hs (Cond.eq (.elem (.static RX7 "MOST" "[I") (.int 7)) (.int (20000))) (by decide +kernel))
    · exact va_eqt (z := 200) (hs (Cond.eq (.elem (.static RX7 "MOST" "[I") (.int 8)) (.int (200))) (by decide +kernel))
    · exact va_eqt (z := 100) (hs (Cond.eq (.elem (.static RX7 "MOST" "[I") (.int 9)) (.int (100))) (by decide +kernel))
    · exact va_eqt (z := 600) (hs (Cond.eq (.elem (.static RX7 "MOST" "[I") (.int 10)) (.int (600))) (by decide +kernel))
    · exact va_eqt (z := 20) (hs (Cond.eq (.elem (.static RX7 "MOST" "[I") (.int 11)) (.int (20))) (by decide +kernel))
    · exact va_eqt (z := 20000) (hs (Cond.eq (.elem (.static RX7 "MOST" "[I") (.int 12)) (.int (20000))) (by decide +kernel))
    · exact va_eqt (z := 50) (hs (Cond.eq (.elem (.static RX7 "MOST" "[I") (.int 13)) (.int (50))) (by decide +kernel))
    · exact va_eqt (z := 100) (hs (Cond.eq (.elem (.static RX7 "MOST" "[I") (.int 14)) (.int (100))) (by decide +kernel))
    · exact va_eqt (z := 300) (hs (Cond.eq (.elem (.static RX7 "MOST" "[I") (.int 15)) (.int (300))) (by decide +kernel))
    · exact va_eqt (z := 1000) (hs (Cond.eq (.elem (.static RX7 "MOST" "[I") (.int 16)) (.int (1000))) (by decide +kernel))) hA
  exact ⟨t, va_Zref (hts (.laysStatic RX7 "MOST" "[I") (List.mem_of_getElem? (i := 796) (by decide +kernel))) (hts (.initialized RX7) (List.mem_of_getElem? (i := 24) (by decide +kernel))) e hA, hT⟩
set_option maxHeartbeats 4000000 in
set_option maxRecDepth 100000 in
theorem lw_stFIRST {s : State} {b : Nat} (hts : ∀ w ∈ lw_tbl, w.before #[Value.ref b] s = true) (hgv : (Jvm.Cond.and given_1 narrow_1).before #[Value.ref b] s = true) : ∃ t : Nat, va_Z RX7 "FIRST" "[I" (.ref t) (fun q : Nat => s.heap.size ≤ q) s s.heap ∧ va_T .int t 17 (fun j => .int (sFI j)) (fun q : Nat => s.heap.size ≤ q) s s.heap := by
  have hs := flat_of_before _ hgv
  have hA : ∀ a : Nat, a < s.heap.size → ¬ (fun q : Nat => s.heap.size ≤ q) a := fun a h => Nat.not_le.mpr h
  obtain ⟨t, e, hT⟩ := va_Tof (ty := .int) (tm := (.static RX7 "FIRST" "[I")) (N := 17) (f := fun j => .int (sFI j)) (A := fun q : Nat => s.heap.size ≤ q) (by decide) (hs (Cond.arrayOf (.static RX7 "FIRST" "[I") .int) (by decide +kernel)) (va_eqt (z := 17) (hs (Cond.eq (.length (.static RX7 "FIRST" "[I")) (.int 17)) (by decide +kernel))) (fun j hj => by
    rcases (show j = 0 ∨ j = 1 ∨ j = 2 ∨ j = 3 ∨ j = 4 ∨ j = 5 ∨ j = 6 ∨ j = 7 ∨ j = 8 ∨ j = 9 ∨ j = 10 ∨ j = 11 ∨ j = 12 ∨ j = 13 ∨ j = 14 ∨ j = 15 ∨ j = 16 by omega) with rfl | rfl | rfl | rfl | rfl | rfl | rfl | rfl | rfl | rfl | rfl | rfl | rfl | rfl | rfl | rfl | rfl
    · exact va_eqt (z := 10) (hs (Cond.eq (.elem (.static RX7 "FIRST" "[I") (.int 0)) (.int (10))) (by decide +kernel))
    · exact va_eqt (z := 5) (hs (Cond.eq (.elem (.static RX7 "FIRST" "[I") (.int 1)) (.int (5))) (by decide +kernel))
    · exact va_eqt (z := 3) (hs (Cond.eq (.elem (.static RX7 "FIRST" "[I") (.int 2)) (.int (3))) (by decide +kernel))
    · exact va_eqt (z := 20) (hs (Cond.eq (.elem (.static RX7 "FIRST" "[I") (.int 3)) (.int (20))) (by decide +kernel))
    · exact va_eqt (z := 550) (hs (Cond.eq (.elem (.static RX7 "FIRST" "[I") (.int 4)) (.int (550))) (by decide +kernel))
    · exact va_eqt (z := 30) (hs (Cond.eq (.elem (.static RX7 "FIRST" "[I") (.int 5)) (.int (30))) (by decide +kernel))
    · exact va_eqt (z := 280) (hs (Cond.eq (.elem (.static RX7 "FIRST" "[I") (.int 6)) (.int (280))) (by decide +kernel))
    · exact va_eqt (z := 6000) (hs (Cond.eq (.elem (.static RX7 "FIRST" "[I") (.int 7)) (.int (6000))) (by decide +kernel))
    · exact va_eqt (z := 100) (hs (Cond.eq (.elem (.static RX7 "FIRST" "[I") (.int 8)) (.int (100))) (by decide +kernel))
    · exact va_eqt (z := 50) (hs (Cond.eq (.elem (.static RX7 "FIRST" "[I") (.int 9)) (.int (50))) (by decide +kernel))
    · exact va_eqt (z := 45) (hs (Cond.eq (.elem (.static RX7 "FIRST" "[I") (.int 10)) (.int (45))) (by decide +kernel))
    · exact va_eqt (z := 6) (hs (Cond.eq (.elem (.static RX7 "FIRST" "[I") (.int 11)) (.int (6))) (by decide +kernel))
    · exact va_eqt (z := 3000) (hs (Cond.eq (.elem (.static RX7 "FIRST" "[I") (.int 12)) (.int (3000))) (by decide +kernel))
    · exact va_eqt (z := 2) (hs (Cond.eq (.elem (.static RX7 "FIRST" "[I") (.int 13)) (.int (2))) (by decide +kernel))
    · exact va_eqt (z := 20) (hs (Cond.eq (.elem (.static RX7 "FIRST" "[I") (.int 14)) (.int (20))) (by decide +kernel))
    · exact va_eqt (z := 200) (hs (Cond.eq (.elem (.static RX7 "FIRST" "[I") (.int 15)) (.int (200))) (by decide +kernel))
    · exact va_eqt (z := 150) (hs (Cond.eq (.elem (.static RX7 "FIRST" "[I") (.int 16)) (.int (150))) (by decide +kernel))) hA
  exact ⟨t, va_Zref (hts (.laysStatic RX7 "FIRST" "[I") (List.mem_of_getElem? (i := 55) (by decide +kernel))) (hts (.initialized RX7) (List.mem_of_getElem? (i := 24) (by decide +kernel))) e hA, hT⟩
theorem lw_stat {s : State} {b : Nat} (hts : ∀ w ∈ lw_tbl, w.before #[Value.ref b] s = true) (hgv : (Jvm.Cond.and given_1 narrow_1).before #[Value.ref b] s = true) : zS (fun q : Nat => s.heap.size ≤ q) s s.heap := by
  obtain ⟨tL, z1, t1⟩ := lw_stLEAST hts hgv
  obtain ⟨tM, z2, t2⟩ := lw_stMOST hts hgv
  obtain ⟨tF, z3, t3⟩ := lw_stFIRST hts hgv
  exact ⟨tL, tM, tF, z1, z2, z3, t1, t2, t3, va_AO.of (hts (.arrayOver (.object "HeatPumpPlant$Plant")) (List.mem_of_getElem? (i := 283) (by decide +kernel)))⟩
