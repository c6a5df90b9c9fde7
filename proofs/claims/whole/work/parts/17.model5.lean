theorem pat_ok (x1 : Nat → Int64) (p1 : Int32) (h : (x1 68).toInt ≤ 6) (fu i : Nat) : i ≤ 6 → 6 - i < fu → pOk (L11_pointAt_2 x1 p1 fu i) := by
  induction fu generalizing i with
  | zero => intro _ h; exact absurd h (by omega)
  | succ fu ih =>
    intro h1 h2
    unfold L11_pointAt_2
    split
    · exact Or.inl (by decide)
    · rename_i h3
      have h4 := w_ptlt h3 h (by omega)
      split
      · exact w_pk h4
      · exact ih _ (by omega) (by omega)
theorem pat_l {x1 : Nat → Int64} {p1 : Int32} (h : (x1 68).toInt ≤ 6) (h0 : 0 ≤ F11_pointAt x1 p1) : (F11_pointAt x1 p1).toNatClampNeg < 6 := by
  obtain ⟨j, hj, e⟩ := (pat_ok x1 p1 h 7 0 (by omega) (by omega)).resolve_left (w_nn0 h0)
  unfold F11_pointAt
  rw [e, nI_clamp (by omega)]
  exact hj
theorem w_le5 {x : Int64} (h : x.toInt ≤ 6) (hn : ¬ x = 6) : x.toInt ≤ 5 := by
  have h1 : x.toInt ≠ 6 := fun e => hn (Int64.toInt_inj.mp (e.trans (by decide)))
  omega
theorem w_m68 {x : Int64} (h1 : 1 ≤ x.toInt) (h6 : x.toInt ≤ 6) (hn : ¬ x = 1) : 1 ≤ (x - (1 : Int64)).toInt ∧ (x - (1 : Int64)).toInt ≤ 5 := by
  have h2 : x.toInt ≠ 1 := fun e => hn (Int64.toInt_inj.mp (e.trans (by decide)))
  rw [Int64.toInt_sub, show (1 : Int64).toInt = 1 from by decide, Int.bmod_eq_of_le (by omega) (by omega)]
  omega
theorem w_addb (a : Nat) {c : Prop} [Decidable c] : nI a + bI (decide (decide c = true)) = nI (a + if c then 1 else 0) := by
  by_cases h : c
  · rw [if_pos h, decide_eq_true (decide_eq_true h)]
    exact nI_1 a
  · rw [if_neg h, show decide (decide c = true) = false from by simp [h]]
    exact nI_add a 0
def K11_addPoint_1 (x0 : MoN) (x1 : (Nat → Int64)) (p1 : Int32) (p2 : Int32) (z4 : Int32 × MoN × (Nat → Int64)) : Int32 × MoN × (Nat → Int64) := ((z4.2.2 68).toInt32, (z4.2.1, (vp_updL (vp_updL z4.2.2 (69 + (2 * (F11_pointAt x1 p1).toNatClampNeg)) p1.toInt64) ((69 + (2 * (F11_pointAt x1 p1).toNatClampNeg)) + 1) p2.toInt64)))
def K11_addPoint_2 (x0 : MoN) (x1 : (Nat → Int64)) (p1 : Int32) (p2 : Int32) (z7 : Int32 × MoN × (Nat → Int64)) : Int32 × MoN × (Nat → Int64) := (((z7.2.2 68) + (1 : Int64)).toInt32, (z7.2.1, (vp_updL (vp_updL (vp_updL z7.2.2 68 ((z7.2.2 68) + (1 : Int64))) (69 + (2 * (nT (z7.2.2 68)))) p1.toInt64) ((69 + (2 * (nT (z7.2.2 68)))) + 1) p2.toInt64)))
def F11_addPoint (x0 : MoN) (x1 : (Nat → Int64)) (p1 : Int32) (p2 : Int32) : Int32 × MoN × (Nat → Int64) := (if (F11_in p1.toInt64 (-300 : Int64) (400 : Int64)) = true then (if (F11_in p2.toInt64 (150 : Int64) (600 : Int64)) = true then (if (0 : Int32) ≤ (F11_pointAt x1 p1) then (K11_addPoint_1 x0 x1 p1 p2 (F11_records x0 x1)) else (if (x1 68) = (6 : Int64) then ((-3 : Int32), (x0, x1)) else (K11_addPoint_2 x0 x1 p1 p2 (F11_records x0 x1)))) else ((-1 : Int32), (x0, x1))) else ((-1 : Int32), (x0, x1)))
set_option maxHeartbeats 4000000 in
set_option maxRecDepth 100000 in
theorem m11_addPoint (l : Launch) (D : va_G) (cI cL cP : ClassId) (b0 : Nat) (b1 : Nat) (b2 : Nat) (x0 : MoN) (x1 : (Nat → Int64)) (p1 : Int32) (p2 : Int32) (hk : x0.1 ≤ 4) (hc : (x1 68).toInt ≤ 6) (hc1 : 1 ≤ (x1 68).toInt) (sz : Nat) : Met l yX11_addPoint wsX11_addPoint ({ frames := 2, cells := 0, slots := 0, locals := 44 }) (va_Pc [.ref b0, .int p1, .int p2] (pM D cI cL cP sz (wF [gN b0 b2 b1 x0, gR cL b2 x1]))) (va_Qi (fun (r : Int32) (w : MoN × (Nat → Int64)) => (r, w) = F11_addPoint x0 x1 p1 p2) (qW D (va_A (wF [gN b0 b2 b1 x0, gR cL b2 x1]) sz) (fun w : MoN × (Nat → Int64) => (wF [gN b0 b2 b1 w.1, gR cL b2 w.2]))) (va_A (wF [gN b0 b2 b1 x0, gR cL b2 x1]) sz)) 0 0 (va_A (wF [gN b0 b2 b1 x0, gR cL b2 x1]) sz) := by
  refine Met.ofW (cc := cX11_addPoint) (maxL := 4) (ret := (some .int)) (by decide) rfl ?_
  intro p e s m args below meth c s₁ B hml hv
  obtain ⟨rfl, hsz, hP, hQ, hD0⟩ := hv
  have hx := B.exec
  have hb := B.bytes
  have hr := B.returns
  have hts := atoms_spec (ws := wsX11_addPoint) B.pre
  have hown : s.vm.findClass RX11 = some m.cls := findClass_of_methodNamed B.named
  have hlocks := B.notSynchronized
  subst hsz
  have hD := hD0.self (sz := s.heap.size)
  generalize hAe : va_A (wF [gN b0 b2 b1 x0, gR cL b2 x1]) s.heap.size = A at hD ⊢
  have hA : ∀ q : Nat, s.heap.size ≤ q → A q := fun q h => by rw [← hAe]; exact Or.inr h
  have hS : va_S A s.heap s.heap [] := va_S.rf
  have hP : va_P D vwCl (wF [gN b0 b2 b1 x0, gR cL b2 x1]) s.heap := hP
  have hl := lv_entry ([.ref b0, .int p1, .int p2]) (n := 4) (Nat.le_of_ble_eq_true rfl)
  rw [lg_entry_eq]
  generalize (lg_sl ([.ref b0, .int p1, .int p2]) ++ List.replicate (4 - (lg_sl ([.ref b0, .int p1, .int p2])).length) Slot.unset).toArray = ls at hl ⊢
  have hl : lv_has ls 4 [(0, .ref b0), (1, .int p1), (2, .int p2)] := hl
  have hinX11 : ∀ w ∈ wsX110, w ∈ wsX11_addPoint := fun _ h => List.mem_cons_of_mem _ (List.mem_append_right _ h)
  refine lv_iload_n hx hb dX11_addPoint_0 rfl (lv_at hl 1 rfl) ?_
  refine lv_i2l hx hb dX11_addPoint_1 rfl ?_
  refine lv_ldc2 (own := RX11) (index := 80) (v := (-300 : Int64)) hx hb hown (hts (.constantLong RX11 80 (-300)) (List.mem_of_getElem? (i := 1) rfl)) dX11_addPoint_2 ?_
  refine lv_ldc2 (own := RX11) (index := 82) (v := (400 : Int64)) hx hb hown (hts (.constantLong RX11 82 (400)) (List.mem_of_getElem? (i := 2) rfl)) dX11_addPoint_5 ?_
  have hPc : va_P D vwCl (wF []) s.heap := hP.sub [] rfl
  refine c_Ri (va_runS (As := [.long p1.toInt64, .long (-300 : Int64), .long (400 : Int64)]) (rest := []) ⟨hx, hb, hml, hown, hts⟩ (m11_in l D cI cL cP p1.toInt64 (-300 : Int64) (400 : Int64) s.heap) (va_cwS 3 hts gX11_addPoint_X11_in rfl rfl rfl (by decide +kernel) ⟨Nat.le_of_ble_eq_true rfl, Nat.le_of_ble_eq_true rfl⟩) (preR_S hQ hPc) rfl rfl hl.1 rfl (lv_room (Nat.le_of_ble_eq_true rfl)) dX11_addPoint_8 ⟨Nat.le_of_ble_eq_true rfl, Nat.le_of_ble_eq_true rfl⟩) hS (fun locs hS => ?_)
  refine lv_if_eq (tgt := 28) hx hb dX11_addPoint_11 (by decide) (fun c1 => ?_) (fun c1 => ?_)
  · have c1 : ¬ ((F11_in p1.toInt64 (-300 : Int64) (400 : Int64)) = true) := bI_0.mp c1
    refine lv_iconst (v := (-1 : Int32)) hx hb dX11_addPoint_28 (by decide) ?_
    exact W.iret (v := (-1 : Int32)) hx hb hr (fun t ht hW => ⟨⟨(-1 : Int32), (x0, x1), rfl, ((Eq.trans (if_neg c1) (rfl)).symm), by rw [ht]; exact hP, hD⟩, hS.F ht⟩) hS.2.2 dX11_addPoint_29
  · have c1 : (F11_in p1.toInt64 (-300 : Int64) (400 : Int64)) = true := bI_1.mp c1
    refine lv_iload_n hx hb dX11_addPoint_14 rfl (lv_at hl 2 rfl) ?_
    refine lv_i2l hx hb dX11_addPoint_15 rfl ?_
    refine lv_ldc2 (own := RX11) (index := 91) (v := (150 : Int64)) hx hb hown (hts (.constantLong RX11 91 (150)) (List.mem_of_getElem? (i := 3) rfl)) dX11_addPoint_16 ?_
    refine lv_ldc2 (own := RX11) (index := 93) (v := (600 : Int64)) hx hb hown (hts (.constantLong RX11 93 (600)) (List.mem_of_getElem? (i := 4) rfl)) dX11_addPoint_19 ?_
    have hPc : va_P D vwCl (wF []) s.heap := hP.sub [] rfl
    refine c_Ri (va_runS (As := [.long p2.toInt64, .long (150 : Int64), .long (600 : Int64)]) (rest := []) ⟨hx, hb, hml, hown, hts⟩ (m11_in l D cI cL cP p2.toInt64 (150 : Int64) (600 : Int64) s.heap) (va_cwS 3 hts gX11_addPoint_X11_in rfl rfl rfl (by decide +kernel) ⟨Nat.le_of_ble_eq_true rfl, Nat.le_of_ble_eq_true rfl⟩) (preR_S hQ hPc) rfl rfl hl.1 rfl (lv_room (Nat.le_of_ble_eq_true rfl)) dX11_addPoint_22 ⟨Nat.le_of_ble_eq_true rfl, Nat.le_of_ble_eq_true rfl⟩) hS (fun locs hS => ?_)
    refine lv_if_ne (tgt := 30) hx hb dX11_addPoint_25 (by decide) (fun c2 => ?_) (fun c2 => ?_)
    · have c2 : (F11_in p2.toInt64 (150 : Int64) (600 : Int64)) = true := bI_1.mp c2
      refine lv_aload_n hx hb dX11_addPoint_30 rfl (lv_at hl 0 rfl) ?_
      refine lv_iload_n hx hb dX11_addPoint_31 rfl (lv_at hl 1 rfl) ?_
      have hPc : va_P D vwCl (wF [gN b0 b2 b1 x0, gR cL b2 x1]) s.heap := hP.sub [0, 1] rfl
      refine c_Ri (va_runV (As := [.int p1]) (rest := []) ⟨hx, hb, hml, hown, hts⟩ (m11_pointAt l D cI cL cP b0 b1 b2 x0 x1 p1 (by omega) s.heap) (cwV 1 hts gX11_addPoint_X11_pointAt rfl rfl rfl (by decide +kernel) ⟨Nat.le_of_ble_eq_true rfl, Nat.le_of_ble_eq_true rfl⟩) (preR_V (q := (RX11, TX11, 10)) (q0 := 0) hQ hPc rfl rfl) rfl rfl hl.1 rfl (lv_room (Nat.le_of_ble_eq_true rfl)) dX11_addPoint_32 ⟨Nat.le_of_ble_eq_true rfl, Nat.le_of_ble_eq_true rfl⟩) hS (fun locs hS => ?_)
      refine lv_istore_n (lv' := [(3, .int (F11_pointAt x1 p1)), (0, .ref b0), (1, .int p1), (2, .int p2)]) hx hb dX11_addPoint_35 rfl hl (by decide) rfl (fun ls hl => ?_)
      refine lv_iload_n hx hb dX11_addPoint_36 rfl (lv_at hl 0 rfl) ?_
      refine lv_if_ge (tgt := 57) hx hb dX11_addPoint_37 (by decide) (fun c3 => ?_) (fun c3 => ?_)
      · have c3 : (0 : Int32) ≤ (F11_pointAt x1 p1) := c3
        have hq37 := c3
        refine lv_aload_n hx hb dX11_addPoint_57 rfl (lv_at hl 1 rfl) ?_
        have hPc : va_P D vwCl (wF [gN b0 b2 b1 x0, gR cL b2 x1]) s.heap := w_psub hP [0, 1] rfl
        have hDc : va_D A (wF [gN b0 b2 b1 x0, gR cL b2 x1]) := w_gsub hD [0, 1] rfl rfl
        refine c_Mi (F := F11_records x0 x1) (G1 := (fun w => [gN b0 b2 b1 w.1, gR cL b2 w.2])) (Gr := []) (Gs' := fun z4 => [gN b0 b2 b1 z4.2.1, gR cL b2 z4.2.2]) (va_runV (As := []) (rest := []) ⟨hx, hb, hml, hown, hts⟩ (m11_records l D cI cL cP b0 b1 b2 x0 x1 (by omega) s.heap.size) (cwV 0 hts gX11_addPoint_X11_records rfl rfl rfl (by decide +kernel) ⟨Nat.le_of_ble_eq_true rfl, Nat.le_of_ble_eq_true rfl⟩) (preM_V (q := (RX11, TX11, 10)) (q0 := 0) hQ hPc hDc rfl rfl) rfl rfl hl.1 rfl (lv_room (Nat.le_of_ble_eq_true rfl)) dX11_addPoint_58 ⟨Nat.le_of_ble_eq_true rfl, Nat.le_of_ble_eq_true rfl⟩) hS hA hP hD [0, 1] [] [0, 1] rfl rfl rfl rfl rfl (fun _ => rfl) (fun z4 H locs hz4 hP hD hS => ?_)
        have hP : va_P D vwCl (wF [gN b0 b2 b1 z4.2.1, gR cL b2 z4.2.2]) H := hP
        have hD : va_D A (wF [gN b0 b2 b1 z4.2.1, gR cL b2 z4.2.2]) := hD
        have hjp := pat_l hc hq37
        refine lv_pop hx hb dX11_addPoint_61 rfl ?_
        refine lv_iload_n hx hb dX11_addPoint_62 rfl (lv_at hl 0 rfl) ?_
        refine lv_if_ge (tgt := 86) hx hb dX11_addPoint_63 (by decide) (fun c5 => ?_) (fun c5 => ?_)
        · have c5 : (0 : Int32) ≤ (F11_pointAt x1 p1) := c5
          refine lv_aload_n hx hb dX11_addPoint_86 rfl (lv_at hl 1 rfl) ?_
          refine va_get (D := D) (ci := 11) (v := .ref b2) (C := RX11) (T := TX11) (N := 10) hx hb hts hinX11 hown hQ.1 hP 0 rfl rfl 0 (by decide) (hts (.fieldLink RX11 7 "HeatPumpPlantModel" "row" "[J") (List.mem_of_getElem? (i := 5) rfl)) (fun _ h9 => h9) rfl dX11_addPoint_87 ?_
          refine lv_bipush (v := (69 : Int32)) hx hb dX11_addPoint_90 (by decide) ?_
          refine lv_iconst (v := (2 : Int32)) hx hb dX11_addPoint_92 (by decide) ?_
          refine lv_iload_n hx hb dX11_addPoint_93 rfl (lv_at hl 0 rfl) ?_
          refine lv_imul hx hb dX11_addPoint_94 ?_
          refine lv_iadd hx hb dX11_addPoint_95 ?_
          refine lv_iload_n hx hb dX11_addPoint_96 rfl (lv_at hl 2 rfl) ?_
          refine lv_i2l hx hb dX11_addPoint_97 rfl ?_
          refine w_last (f := z4.2.2) (j := (69 + (2 * (F11_pointAt x1 p1).toNatClampNeg))) hx hb hQ.1 hP hD hS 1 1 rfl rfl ((congr (congrArg HAdd.hAdd (show (69 : Int32) = nI 69 from (rfl : (69 : Int32) = nI 69))) (show ((2 : Int32) * (F11_pointAt x1 p1)) = nI (2 * (F11_pointAt x1 p1).toNatClampNeg) from ((congr (congrArg HMul.hMul (show (2 : Int32) = nI 2 from (rfl : (2 : Int32) = nI 2))) (show (F11_pointAt x1 p1) = nI ((F11_pointAt x1 p1).toNatClampNeg) from (w_nat (w_nn0 hq37)))).trans (pk_mul 2 ((F11_pointAt x1 p1).toNatClampNeg))))).trans (nI_add 69 (2 * (F11_pointAt x1 p1).toNatClampNeg))) (by omega) (by decide) dX11_addPoint_98 (fun H locs hP hD hS => ?_)
          have hP : va_P D vwCl (wF [gN b0 b2 b1 z4.2.1, gR cL b2 (vp_updL z4.2.2 (69 + (2 * (F11_pointAt x1 p1).toNatClampNeg)) p1.toInt64)]) H := hP
          have hD : va_D A (wF [gN b0 b2 b1 z4.2.1, gR cL b2 (vp_updL z4.2.2 (69 + (2 * (F11_pointAt x1 p1).toNatClampNeg)) p1.toInt64)]) := hD
          refine lv_aload_n hx hb dX11_addPoint_99 rfl (lv_at hl 1 rfl) ?_
          refine va_get (D := D) (ci := 11) (v := .ref b2) (C := RX11) (T := TX11) (N := 10) hx hb hts hinX11 hown hQ.1 hP 0 rfl rfl 0 (by decide) (hts (.fieldLink RX11 7 "HeatPumpPlantModel" "row" "[J") (List.mem_of_getElem? (i := 5) rfl)) (fun _ h9 => h9) rfl dX11_addPoint_100 ?_
          refine lv_bipush (v := (69 : Int32)) hx hb dX11_addPoint_103 (by decide) ?_
          refine lv_iconst (v := (2 : Int32)) hx hb dX11_addPoint_105 (by decide) ?_
          refine lv_iload_n hx hb dX11_addPoint_106 rfl (lv_at hl 0 rfl) ?_
          refine lv_imul hx hb dX11_addPoint_107 ?_
          refine lv_iadd hx hb dX11_addPoint_108 ?_
          refine lv_iconst (v := (1 : Int32)) hx hb dX11_addPoint_109 (by decide) ?_
          refine lv_iadd hx hb dX11_addPoint_110 ?_
          refine lv_iload_n hx hb dX11_addPoint_111 rfl (lv_at hl 3 rfl) ?_
          refine lv_i2l hx hb dX11_addPoint_112 rfl ?_
          refine w_last (f := (vp_updL z4.2.2 (69 + (2 * (F11_pointAt x1 p1).toNatClampNeg)) p1.toInt64)) (j := ((69 + (2 * (F11_pointAt x1 p1).toNatClampNeg)) + 1)) hx hb hQ.1 hP hD hS 1 1 rfl rfl ((congr (congrArg HAdd.hAdd (show ((69 : Int32) + ((2 : Int32) * (F11_pointAt x1 p1))) = nI (69 + (2 * (F11_pointAt x1 p1).toNatClampNeg)) from ((congr (congrArg HAdd.hAdd (show (69 : Int32) = nI 69 from (rfl : (69 : Int32) = nI 69))) (show ((2 : Int32) * (F11_pointAt x1 p1)) = nI (2 * (F11_pointAt x1 p1).toNatClampNeg) from ((congr (congrArg HMul.hMul (show (2 : Int32) = nI 2 from (rfl : (2 : Int32) = nI 2))) (show (F11_pointAt x1 p1) = nI ((F11_pointAt x1 p1).toNatClampNeg) from (w_nat (w_nn0 hq37)))).trans (pk_mul 2 ((F11_pointAt x1 p1).toNatClampNeg))))).trans (nI_add 69 (2 * (F11_pointAt x1 p1).toNatClampNeg))))) (show (1 : Int32) = nI 1 from (rfl : (1 : Int32) = nI 1))).trans (nI_add (69 + (2 * (F11_pointAt x1 p1).toNatClampNeg)) 1)) (by omega) (by decide) dX11_addPoint_113 (fun H locs hP hD hS => ?_)
          have hP : va_P D vwCl (wF [gN b0 b2 b1 z4.2.1, gR cL b2 (vp_updL (vp_updL z4.2.2 (69 + (2 * (F11_pointAt x1 p1).toNatClampNeg)) p1.toInt64) ((69 + (2 * (F11_pointAt x1 p1).toNatClampNeg)) + 1) p2.toInt64)]) H := hP
          have hD : va_D A (wF [gN b0 b2 b1 z4.2.1, gR cL b2 (vp_updL (vp_updL z4.2.2 (69 + (2 * (F11_pointAt x1 p1).toNatClampNeg)) p1.toInt64) ((69 + (2 * (F11_pointAt x1 p1).toNatClampNeg)) + 1) p2.toInt64)]) := hD
          refine lv_aload_n hx hb dX11_addPoint_114 rfl (lv_at hl 1 rfl) ?_
          refine va_get (D := D) (ci := 11) (v := .ref b2) (C := RX11) (T := TX11) (N := 10) hx hb hts hinX11 hown hQ.1 hP 0 rfl rfl 0 (by decide) (hts (.fieldLink RX11 7 "HeatPumpPlantModel" "row" "[J") (List.mem_of_getElem? (i := 5) rfl)) (fun _ h9 => h9) rfl dX11_addPoint_115 ?_
          refine lv_bipush (v := (68 : Int32)) hx hb dX11_addPoint_118 (by decide) ?_
          refine w_lald (f := (vp_updL (vp_updL z4.2.2 (69 + (2 * (F11_pointAt x1 p1).toNatClampNeg)) p1.toInt64) ((69 + (2 * (F11_pointAt x1 p1).toNatClampNeg)) + 1) p2.toInt64)) (j := 68) hx hb hQ.1 hP 1 1 rfl rfl (rfl : (68 : Int32) = nI 68) (by omega) (by decide) dX11_addPoint_120 ?_
          refine w_topL (show ((vp_updL (vp_updL z4.2.2 (69 + (2 * (F11_pointAt x1 p1).toNatClampNeg)) p1.toInt64) ((69 + (2 * (F11_pointAt x1 p1).toNatClampNeg)) + 1) p2.toInt64) 68) = (z4.2.2 68) from (w_rd (by omega) (w_rd (by omega) rfl))) ?_
          refine lv_l2i hx hb dX11_addPoint_121 rfl ?_
          exact W.iret (v := (z4.2.2 68).toInt32) hx hb hr (fun t ht hW => ⟨⟨(z4.2.2 68).toInt32, (z4.2.1, (vp_updL (vp_updL z4.2.2 (69 + (2 * (F11_pointAt x1 p1).toNatClampNeg)) p1.toInt64) ((69 + (2 * (F11_pointAt x1 p1).toNatClampNeg)) + 1) p2.toInt64)), rfl, ((Eq.trans (if_pos c1) (Eq.trans (if_pos c2) (Eq.trans (if_pos c3) (Eq.trans (congrArg (K11_addPoint_1 x0 x1 p1 p2) hz4.symm) (rfl))))).symm), by rw [ht]; exact hP, hD⟩, hS.F ht⟩) hS.2.2 dX11_addPoint_122
        · have c5 : ¬ ((0 : Int32) ≤ (F11_pointAt x1 p1)) := c5
          exact absurd c5 (fun h9 => h9 hq37)
      · have c3 : ¬ ((0 : Int32) ≤ (F11_pointAt x1 p1)) := c3
        have hq37 := c3
        refine lv_aload_n hx hb dX11_addPoint_40 rfl (lv_at hl 1 rfl) ?_
        refine va_get (D := D) (ci := 11) (v := .ref b2) (C := RX11) (T := TX11) (N := 10) hx hb hts hinX11 hown hQ.1 hP 0 rfl rfl 0 (by decide) (hts (.fieldLink RX11 7 "HeatPumpPlantModel" "row" "[J") (List.mem_of_getElem? (i := 5) rfl)) (fun _ h9 => h9) rfl dX11_addPoint_41 ?_
        refine lv_bipush (v := (68 : Int32)) hx hb dX11_addPoint_44 (by decide) ?_
        refine w_lald (f := x1) (j := 68) hx hb hQ.1 hP 1 1 rfl rfl (rfl : (68 : Int32) = nI 68) (by omega) (by decide) dX11_addPoint_46 ?_
        refine lv_ldc2 (own := RX11) (index := 98) (v := (6 : Int64)) hx hb hown (hts (.constantLong RX11 98 (6)) (List.mem_of_getElem? (i := 6) rfl)) dX11_addPoint_47 ?_
        refine w_lne (tgt := 57) hx hb dX11_addPoint_50 dX11_addPoint_51 (by decide) (fun c6 => ?_) (fun c6 => ?_)
        · have c6 : ¬ ((x1 68) = (6 : Int64)) := c6
          have hq53 := c6
          refine lv_aload_n hx hb dX11_addPoint_57 rfl (lv_at hl 1 rfl) ?_
          have hPc : va_P D vwCl (wF [gN b0 b2 b1 x0, gR cL b2 x1]) s.heap := w_psub hP [0, 1] rfl
          have hDc : va_D A (wF [gN b0 b2 b1 x0, gR cL b2 x1]) := w_gsub hD [0, 1] rfl rfl
          refine c_Mi (F := F11_records x0 x1) (G1 := (fun w => [gN b0 b2 b1 w.1, gR cL b2 w.2])) (Gr := []) (Gs' := fun z7 => [gN b0 b2 b1 z7.2.1, gR cL b2 z7.2.2]) (va_runV (As := []) (rest := []) ⟨hx, hb, hml, hown, hts⟩ (m11_records l D cI cL cP b0 b1 b2 x0 x1 (by omega) s.heap.size) (cwV 0 hts gX11_addPoint_X11_records rfl rfl rfl (by decide +kernel) ⟨Nat.le_of_ble_eq_true rfl, Nat.le_of_ble_eq_true rfl⟩) (preM_V (q := (RX11, TX11, 10)) (q0 := 0) hQ hPc hDc rfl rfl) rfl rfl hl.1 rfl (lv_room (Nat.le_of_ble_eq_true rfl)) dX11_addPoint_58 ⟨Nat.le_of_ble_eq_true rfl, Nat.le_of_ble_eq_true rfl⟩) hS hA hP hD [0, 1] [] [0, 1] rfl rfl rfl rfl rfl (fun _ => rfl) (fun z7 H locs hz7 hP hD hS => ?_)
          have hP : va_P D vwCl (wF [gN b0 b2 b1 z7.2.1, gR cL b2 z7.2.2]) H := hP
          have hD : va_D A (wF [gN b0 b2 b1 z7.2.1, gR cL b2 z7.2.2]) := hD
          have h68_z7 : 0 ≤ (z7.2.2 68).toInt ∧ (z7.2.2 68).toInt ≤ 5 := by rw [hz7, rec_o x0 x1 68 (by omega)]; exact ⟨by omega, w_le5 hc hq53⟩
          have hjp := nT_le (n := 5) h68_z7.2
          refine lv_pop hx hb dX11_addPoint_61 rfl ?_
          refine lv_iload_n hx hb dX11_addPoint_62 rfl (lv_at hl 0 rfl) ?_
          refine lv_if_ge (tgt := 86) hx hb dX11_addPoint_63 (by decide) (fun c8 => ?_) (fun c8 => ?_)
          · have c8 : (0 : Int32) ≤ (F11_pointAt x1 p1) := c8
            exact absurd c8 hq37
          · have c8 : ¬ ((0 : Int32) ≤ (F11_pointAt x1 p1)) := c8
            refine lv_aload_n hx hb dX11_addPoint_66 rfl (lv_at hl 1 rfl) ?_
            refine va_get (D := D) (ci := 11) (v := .ref b2) (C := RX11) (T := TX11) (N := 10) hx hb hts hinX11 hown hQ.1 hP 0 rfl rfl 0 (by decide) (hts (.fieldLink RX11 7 "HeatPumpPlantModel" "row" "[J") (List.mem_of_getElem? (i := 5) rfl)) (fun _ h9 => h9) rfl dX11_addPoint_67 ?_
            refine lv_bipush (v := (68 : Int32)) hx hb dX11_addPoint_70 (by decide) ?_
            refine w_lald (f := z7.2.2) (j := 68) hx hb hQ.1 hP 1 1 rfl rfl (rfl : (68 : Int32) = nI 68) (by omega) (by decide) dX11_addPoint_72 ?_
            refine lv_l2i hx hb dX11_addPoint_73 rfl ?_
            refine lv_istore_n (lv' := [(3, .int ((z7.2.2 68).toInt32)), (0, .ref b0), (1, .int p1), (2, .int p2)]) hx hb dX11_addPoint_74 rfl hl (by decide) rfl (fun ls hl => ?_)
            refine lv_aload_n hx hb dX11_addPoint_75 rfl (lv_at hl 1 rfl) ?_
            refine va_get (D := D) (ci := 11) (v := .ref b2) (C := RX11) (T := TX11) (N := 10) hx hb hts hinX11 hown hQ.1 hP 0 rfl rfl 0 (by decide) (hts (.fieldLink RX11 7 "HeatPumpPlantModel" "row" "[J") (List.mem_of_getElem? (i := 5) rfl)) (fun _ h9 => h9) rfl dX11_addPoint_76 ?_
            refine lv_bipush (v := (68 : Int32)) hx hb dX11_addPoint_79 (by decide) ?_
            refine lv_dup2_11 hx hb dX11_addPoint_81 rfl rfl ?_
            refine w_lald (f := z7.2.2) (j := 68) hx hb hQ.1 hP 1 1 rfl rfl (rfl : (68 : Int32) = nI 68) (by omega) (by decide) dX11_addPoint_82 ?_
            refine lv_lconst (v := (1 : Int64)) hx hb dX11_addPoint_83 rfl ?_
            refine lv_ladd hx hb dX11_addPoint_84 ?_
            refine w_last (f := z7.2.2) (j := 68) hx hb hQ.1 hP hD hS 1 1 rfl rfl (rfl : (68 : Int32) = nI 68) (by omega) (by decide) dX11_addPoint_85 (fun H locs hP hD hS => ?_)
            have hP : va_P D vwCl (wF [gN b0 b2 b1 z7.2.1, gR cL b2 (vp_updL z7.2.2 68 ((z7.2.2 68) + (1 : Int64)))]) H := hP
            have hD : va_D A (wF [gN b0 b2 b1 z7.2.1, gR cL b2 (vp_updL z7.2.2 68 ((z7.2.2 68) + (1 : Int64)))]) := hD
            refine lv_aload_n hx hb dX11_addPoint_86 rfl (lv_at hl 1 rfl) ?_
            refine va_get (D := D) (ci := 11) (v := .ref b2) (C := RX11) (T := TX11) (N := 10) hx hb hts hinX11 hown hQ.1 hP 0 rfl rfl 0 (by decide) (hts (.fieldLink RX11 7 "HeatPumpPlantModel" "row" "[J") (List.mem_of_getElem? (i := 5) rfl)) (fun _ h9 => h9) rfl dX11_addPoint_87 ?_
            refine lv_bipush (v := (69 : Int32)) hx hb dX11_addPoint_90 (by decide) ?_
            refine lv_iconst (v := (2 : Int32)) hx hb dX11_addPoint_92 (by decide) ?_
            refine lv_iload_n hx hb dX11_addPoint_93 rfl (lv_at hl 0 rfl) ?_
            refine lv_imul hx hb dX11_addPoint_94 ?_
            refine lv_iadd hx hb dX11_addPoint_95 ?_
            refine lv_iload_n hx hb dX11_addPoint_96 rfl (lv_at hl 2 rfl) ?_
            refine lv_i2l hx hb dX11_addPoint_97 rfl ?_
            refine w_last (f := (vp_updL z7.2.2 68 ((z7.2.2 68) + (1 : Int64)))) (j := (69 + (2 * (nT (z7.2.2 68))))) hx hb hQ.1 hP hD hS 1 1 rfl rfl ((congr (congrArg HAdd.hAdd (show (69 : Int32) = nI 69 from (rfl : (69 : Int32) = nI 69))) (show ((2 : Int32) * (z7.2.2 68).toInt32) = nI (2 * (nT (z7.2.2 68))) from ((congr (congrArg HMul.hMul (show (2 : Int32) = nI 2 from (rfl : (2 : Int32) = nI 2))) (show (z7.2.2 68).toInt32 = nI (nT (z7.2.2 68)) from (w_nTi h68_z7.1))).trans (pk_mul 2 (nT (z7.2.2 68)))))).trans (nI_add 69 (2 * (nT (z7.2.2 68))))) (by omega) (by decide) dX11_addPoint_98 (fun H locs hP hD hS => ?_)
            have hP : va_P D vwCl (wF [gN b0 b2 b1 z7.2.1, gR cL b2 (vp_updL (vp_updL z7.2.2 68 ((z7.2.2 68) + (1 : Int64))) (69 + (2 * (nT (z7.2.2 68)))) p1.toInt64)]) H := hP
            have hD : va_D A (wF [gN b0 b2 b1 z7.2.1, gR cL b2 (vp_updL (vp_updL z7.2.2 68 ((z7.2.2 68) + (1 : Int64))) (69 + (2 * (nT (z7.2.2 68)))) p1.toInt64)]) := hD
            refine lv_aload_n hx hb dX11_addPoint_99 rfl (lv_at hl 1 rfl) ?_
            refine va_get (D := D) (ci := 11) (v := .ref b2) (C := RX11) (T := TX11) (N := 10) hx hb hts hinX11 hown hQ.1 hP 0 rfl rfl 0 (by decide) (hts (.fieldLink RX11 7 "HeatPumpPlantModel" "row" "[J") (List.mem_of_getElem? (i := 5) rfl)) (fun _ h9 => h9) rfl dX11_addPoint_100 ?_
            refine lv_bipush (v := (69 : Int32)) hx hb dX11_addPoint_103 (by decide) ?_
            refine lv_iconst (v := (2 : Int32)) hx hb dX11_addPoint_105 (by decide) ?_
            refine lv_iload_n hx hb dX11_addPoint_106 rfl (lv_at hl 0 rfl) ?_
            refine lv_imul hx hb dX11_addPoint_107 ?_
            refine lv_iadd hx hb dX11_addPoint_108 ?_
            refine lv_iconst (v := (1 : Int32)) hx hb dX11_addPoint_109 (by decide) ?_
            refine lv_iadd hx hb dX11_addPoint_110 ?_
            refine lv_iload_n hx hb dX11_addPoint_111 rfl (lv_at hl 3 rfl) ?_
            refine lv_i2l hx hb dX11_addPoint_112 rfl ?_
            refine w_last (f := (vp_updL (vp_updL z7.2.2 68 ((z7.2.2 68) + (1 : Int64))) (69 + (2 * (nT (z7.2.2 68)))) p1.toInt64)) (j := ((69 + (2 * (nT (z7.2.2 68)))) + 1)) hx hb hQ.1 hP hD hS 1 1 rfl rfl ((congr (congrArg HAdd.hAdd (show ((69 : Int32) + ((2 : Int32) * (z7.2.2 68).toInt32)) = nI (69 + (2 * (nT (z7.2.2 68)))) from ((congr (congrArg HAdd.hAdd (show (69 : Int32) = nI 69 from (rfl : (69 : Int32) = nI 69))) (show ((2 : Int32) * (z7.2.2 68).toInt32) = nI (2 * (nT (z7.2.2 68))) from ((congr (congrArg HMul.hMul (show (2 : Int32) = nI 2 from (rfl : (2 : Int32) = nI 2))) (show (z7.2.2 68).toInt32 = nI (nT (z7.2.2 68)) from (w_nTi h68_z7.1))).trans (pk_mul 2 (nT (z7.2.2 68)))))).trans (nI_add 69 (2 * (nT (z7.2.2 68))))))) (show (1 : Int32) = nI 1 from (rfl : (1 : Int32) = nI 1))).trans (nI_add (69 + (2 * (nT (z7.2.2 68)))) 1)) (by omega) (by decide) dX11_addPoint_113 (fun H locs hP hD hS => ?_)
            have hP : va_P D vwCl (wF [gN b0 b2 b1 z7.2.1, gR cL b2 (vp_updL (vp_updL (vp_updL z7.2.2 68 ((z7.2.2 68) + (1 : Int64))) (69 + (2 * (nT (z7.2.2 68)))) p1.toInt64) ((69 + (2 * (nT (z7.2.2 68)))) + 1) p2.toInt64)]) H := hP
            have hD : va_D A (wF [gN b0 b2 b1 z7.2.1, gR cL b2 (vp_updL (vp_updL (vp_updL z7.2.2 68 ((z7.2.2 68) + (1 : Int64))) (69 + (2 * (nT (z7.2.2 68)))) p1.toInt64) ((69 + (2 * (nT (z7.2.2 68)))) + 1) p2.toInt64)]) := hD
            refine lv_aload_n hx hb dX11_addPoint_114 rfl (lv_at hl 1 rfl) ?_
            refine va_get (D := D) (ci := 11) (v := .ref b2) (C := RX11) (T := TX11) (N := 10) hx hb hts hinX11 hown hQ.1 hP 0 rfl rfl 0 (by decide) (hts (.fieldLink RX11 7 "HeatPumpPlantModel" "row" "[J") (List.mem_of_getElem? (i := 5) rfl)) (fun _ h9 => h9) rfl dX11_addPoint_115 ?_
            refine lv_bipush (v := (68 : Int32)) hx hb dX11_addPoint_118 (by decide) ?_
            refine w_lald (f := (vp_updL (vp_updL (vp_updL z7.2.2 68 ((z7.2.2 68) + (1 : Int64))) (69 + (2 * (nT (z7.2.2 68)))) p1.toInt64) ((69 + (2 * (nT (z7.2.2 68)))) + 1) p2.toInt64)) (j := 68) hx hb hQ.1 hP 1 1 rfl rfl (rfl : (68 : Int32) = nI 68) (by omega) (by decide) dX11_addPoint_120 ?_
            refine w_topL (show ((vp_updL (vp_updL (vp_updL z7.2.2 68 ((z7.2.2 68) + (1 : Int64))) (69 + (2 * (nT (z7.2.2 68)))) p1.toInt64) ((69 + (2 * (nT (z7.2.2 68)))) + 1) p2.toInt64) 68) = ((z7.2.2 68) + (1 : Int64)) from (w_rd (by omega) (w_rd (by omega) (w_rds _ _ _)))) ?_
            refine lv_l2i hx hb dX11_addPoint_121 rfl ?_
            exact W.iret (v := ((z7.2.2 68) + (1 : Int64)).toInt32) hx hb hr (fun t ht hW => ⟨⟨((z7.2.2 68) + (1 : Int64)).toInt32, (z7.2.1, (vp_updL (vp_updL (vp_updL z7.2.2 68 ((z7.2.2 68) + (1 : Int64))) (69 + (2 * (nT (z7.2.2 68)))) p1.toInt64) ((69 + (2 * (nT (z7.2.2 68)))) + 1) p2.toInt64)), rfl, ((Eq.trans (if_pos c1) (Eq.trans (if_pos c2) (Eq.trans (if_neg c3) (Eq.trans (if_neg c6) (Eq.trans (congrArg (K11_addPoint_2 x0 x1 p1 p2) hz7.symm) (rfl)))))).symm), by rw [ht]; exact hP, hD⟩, hS.F ht⟩) hS.2.2 dX11_addPoint_122
        · have c6 : (x1 68) = (6 : Int64) := c6
          refine lv_bipush (v := (-3 : Int32)) hx hb dX11_addPoint_54 (by decide) ?_
          exact W.iret (v := (-3 : Int32)) hx hb hr (fun t ht hW => ⟨⟨(-3 : Int32), (x0, x1), rfl, ((Eq.trans (if_pos c1) (Eq.trans (if_pos c2) (Eq.trans (if_neg c3) (Eq.trans (if_pos c6) (rfl))))).symm), by rw [ht]; exact hP, hD⟩, hS.F ht⟩) hS.2.2 dX11_addPoint_56
    · have c2 : ¬ ((F11_in p2.toInt64 (150 : Int64) (600 : Int64)) = true) := bI_0.mp c2
      refine lv_iconst (v := (-1 : Int32)) hx hb dX11_addPoint_28 (by decide) ?_
      exact W.iret (v := (-1 : Int32)) hx hb hr (fun t ht hW => ⟨⟨(-1 : Int32), (x0, x1), rfl, ((Eq.trans (if_pos c1) (Eq.trans (if_neg c2) (rfl))).symm), by rw [ht]; exact hP, hD⟩, hS.F ht⟩) hS.2.2 dX11_addPoint_29
def K11_removePoint_1 (x0 : MoN) (x1 : (Nat → Int64)) (p1 : Int32) (z3 : Int32 × MoN × (Nat → Int64)) : Int32 × MoN × (Nat → Int64) := (((z3.2.2 68) - (1 : Int64)).toInt32, (z3.2.1, (vp_updL (vp_updL (vp_updL z3.2.2 68 ((z3.2.2 68) - (1 : Int64))) (69 + (2 * (F11_pointAt x1 p1).toNatClampNeg)) (z3.2.2 (69 + (2 * (nT ((z3.2.2 68) - (1 : Int64))))))) ((69 + (2 * (F11_pointAt x1 p1).toNatClampNeg)) + 1) ((vp_updL (vp_updL z3.2.2 68 ((z3.2.2 68) - (1 : Int64))) (69 + (2 * (F11_pointAt x1 p1).toNatClampNeg)) (z3.2.2 (69 + (2 * (nT ((z3.2.2 68) - (1 : Int64))))))) ((69 + (2 * (nT ((z3.2.2 68) - (1 : Int64))))) + 1)))))
def F11_removePoint (x0 : MoN) (x1 : (Nat → Int64)) (p1 : Int32) : Int32 × MoN × (Nat → Int64) := (if (0 : Int32) ≤ (F11_pointAt x1 p1) then (if (x1 68) = (1 : Int64) then ((-2 : Int32), (x0, x1)) else (K11_removePoint_1 x0 x1 p1 (F11_records x0 x1))) else ((-1 : Int32), (x0, x1)))
set_option maxHeartbeats 4000000 in
set_option maxRecDepth 100000 in
theorem m11_removePoint (l : Launch) (D : va_G) (cI cL cP : ClassId) (b0 : Nat) (b1 : Nat) (b2 : Nat) (x0 : MoN) (x1 : (Nat → Int64)) (p1 : Int32) (hk : x0.1 ≤ 4) (hc : (x1 68).toInt ≤ 6) (hc1 : 1 ≤ (x1 68).toInt) (sz : Nat) : Met l yX11_removePoint wsX11_removePoint ({ frames := 2, cells := 0, slots := 0, locals := 44 }) (va_Pc [.ref b0, .int p1] (pM D cI cL cP sz (wF [gN b0 b2 b1 x0, gR cL b2 x1]))) (va_Qi (fun (r : Int32) (w : MoN × (Nat → Int64)) => (r, w) = F11_removePoint x0 x1 p1) (qW D (va_A (wF [gN b0 b2 b1 x0, gR cL b2 x1]) sz) (fun w : MoN × (Nat → Int64) => (wF [gN b0 b2 b1 w.1, gR cL b2 w.2]))) (va_A (wF [gN b0 b2 b1 x0, gR cL b2 x1]) sz)) 0 0 (va_A (wF [gN b0 b2 b1 x0, gR cL b2 x1]) sz) := by
  refine Met.ofW (cc := cX11_removePoint) (maxL := 4) (ret := (some .int)) (by decide) rfl ?_
  intro p e s m args below meth c s₁ B hml hv
  obtain ⟨rfl, hsz, hP, hQ, hD0⟩ := hv
  have hx := B.exec
  have hb := B.bytes
  have hr := B.returns
  have hts := atoms_spec (ws := wsX11_removePoint) B.pre
  have hown : s.vm.findClass RX11 = some m.cls := findClass_of_methodNamed B.named
  have hlocks := B.notSynchronized
  subst hsz
  have hD := hD0.self (sz := s.heap.size)
  generalize hAe : va_A (wF [gN b0 b2 b1 x0, gR cL b2 x1]) s.heap.size = A at hD ⊢
  have hA : ∀ q : Nat, s.heap.size ≤ q → A q := fun q h => by rw [← hAe]; exact Or.inr h
  have hS : va_S A s.heap s.heap [] := va_S.rf
  have hP : va_P D vwCl (wF [gN b0 b2 b1 x0, gR cL b2 x1]) s.heap := hP
  have hl := lv_entry ([.ref b0, .int p1]) (n := 4) (Nat.le_of_ble_eq_true rfl)
  rw [lg_entry_eq]
  generalize (lg_sl ([.ref b0, .int p1]) ++ List.replicate (4 - (lg_sl ([.ref b0, .int p1])).length) Slot.unset).toArray = ls at hl ⊢
  have hl : lv_has ls 4 [(0, .ref b0), (1, .int p1)] := hl
  have hinX11 : ∀ w ∈ wsX110, w ∈ wsX11_removePoint := fun _ h => List.mem_cons_of_mem _ (List.mem_append_right _ h)
  refine lv_aload_n hx hb dX11_removePoint_0 rfl (lv_at hl 0 rfl) ?_
  refine lv_iload_n hx hb dX11_removePoint_1 rfl (lv_at hl 1 rfl) ?_
  have hPc : va_P D vwCl (wF [gN b0 b2 b1 x0, gR cL b2 x1]) s.heap := hP.sub [0, 1] rfl
  refine c_Ri (va_runV (As := [.int p1]) (rest := []) ⟨hx, hb, hml, hown, hts⟩ (m11_pointAt l D cI cL cP b0 b1 b2 x0 x1 p1 (by omega) s.heap) (cwV 1 hts gX11_removePoint_X11_pointAt rfl rfl rfl (by decide +kernel) ⟨Nat.le_of_ble_eq_true rfl, Nat.le_of_ble_eq_true rfl⟩) (preR_V (q := (RX11, TX11, 10)) (q0 := 0) hQ hPc rfl rfl) rfl rfl hl.1 rfl (lv_room (Nat.le_of_ble_eq_true rfl)) dX11_removePoint_2 ⟨Nat.le_of_ble_eq_true rfl, Nat.le_of_ble_eq_true rfl⟩) hS (fun locs hS => ?_)
  refine lv_istore_n (lv' := [(2, .int (F11_pointAt x1 p1)), (0, .ref b0), (1, .int p1)]) hx hb dX11_removePoint_5 rfl hl (by decide) rfl (fun ls hl => ?_)
  refine lv_iload_n hx hb dX11_removePoint_6 rfl (lv_at hl 0 rfl) ?_
  refine lv_if_ge (tgt := 12) hx hb dX11_removePoint_7 (by decide) (fun c1 => ?_) (fun c1 => ?_)
  · have c1 : (0 : Int32) ≤ (F11_pointAt x1 p1) := c1
    have hq7 := c1
    refine lv_aload_n hx hb dX11_removePoint_12 rfl (lv_at hl 1 rfl) ?_
    refine va_get (D := D) (ci := 11) (v := .ref b2) (C := RX11) (T := TX11) (N := 10) hx hb hts hinX11 hown hQ.1 hP 0 rfl rfl 0 (by decide) (hts (.fieldLink RX11 7 "HeatPumpPlantModel" "row" "[J") (List.mem_of_getElem? (i := 1) rfl)) (fun _ h9 => h9) rfl dX11_removePoint_13 ?_
    refine lv_bipush (v := (68 : Int32)) hx hb dX11_removePoint_16 (by decide) ?_
    refine w_lald (f := x1) (j := 68) hx hb hQ.1 hP 1 1 rfl rfl (rfl : (68 : Int32) = nI 68) (by omega) (by decide) dX11_removePoint_18 ?_
    refine lv_lconst (v := (1 : Int64)) hx hb dX11_removePoint_19 rfl ?_
    refine w_lne (tgt := 27) hx hb dX11_removePoint_20 dX11_removePoint_21 (by decide) (fun c2 => ?_) (fun c2 => ?_)
    · have c2 : ¬ ((x1 68) = (1 : Int64)) := c2
      have hq20 := c2
      refine lv_aload_n hx hb dX11_removePoint_27 rfl (lv_at hl 1 rfl) ?_
      have hPc : va_P D vwCl (wF [gN b0 b2 b1 x0, gR cL b2 x1]) s.heap := w_psub hP [0, 1] rfl
      have hDc : va_D A (wF [gN b0 b2 b1 x0, gR cL b2 x1]) := w_gsub hD [0, 1] rfl rfl
      refine c_Mi (F := F11_records x0 x1) (G1 := (fun w => [gN b0 b2 b1 w.1, gR cL b2 w.2])) (Gr := []) (Gs' := fun z3 => [gN b0 b2 b1 z3.2.1, gR cL b2 z3.2.2]) (va_runV (As := []) (rest := []) ⟨hx, hb, hml, hown, hts⟩ (m11_records l D cI cL cP b0 b1 b2 x0 x1 (by omega) s.heap.size) (cwV 0 hts gX11_removePoint_X11_records rfl rfl rfl (by decide +kernel) ⟨Nat.le_of_ble_eq_true rfl, Nat.le_of_ble_eq_true rfl⟩) (preM_V (q := (RX11, TX11, 10)) (q0 := 0) hQ hPc hDc rfl rfl) rfl rfl hl.1 rfl (lv_room (Nat.le_of_ble_eq_true rfl)) dX11_removePoint_28 ⟨Nat.le_of_ble_eq_true rfl, Nat.le_of_ble_eq_true rfl⟩) hS hA hP hD [0, 1] [] [0, 1] rfl rfl rfl rfl rfl (fun _ => rfl) (fun z3 H locs hz3 hP hD hS => ?_)
      have hP : va_P D vwCl (wF [gN b0 b2 b1 z3.2.1, gR cL b2 z3.2.2]) H := hP
      have hD : va_D A (wF [gN b0 b2 b1 z3.2.1, gR cL b2 z3.2.2]) := hD
      have h68_z3 : 1 ≤ (z3.2.2 68 - (1 : Int64)).toInt ∧ (z3.2.2 68 - (1 : Int64)).toInt ≤ 5 := by rw [hz3, rec_o x0 x1 68 (by omega)]; exact w_m68 hc1 hc hq20
      have hjp := pat_l hc hq7
      have hjq := nT_le (n := 5) h68_z3.2
      refine lv_pop hx hb dX11_removePoint_31 rfl ?_
      refine lv_aload_n hx hb dX11_removePoint_32 rfl (lv_at hl 1 rfl) ?_
      refine va_get (D := D) (ci := 11) (v := .ref b2) (C := RX11) (T := TX11) (N := 10) hx hb hts hinX11 hown hQ.1 hP 0 rfl rfl 0 (by decide) (hts (.fieldLink RX11 7 "HeatPumpPlantModel" "row" "[J") (List.mem_of_getElem? (i := 1) rfl)) (fun _ h9 => h9) rfl dX11_removePoint_33 ?_
      refine lv_bipush (v := (68 : Int32)) hx hb dX11_removePoint_36 (by decide) ?_
      refine lv_dup2_11 hx hb dX11_removePoint_38 rfl rfl ?_
      refine w_lald (f := z3.2.2) (j := 68) hx hb hQ.1 hP 1 1 rfl rfl (rfl : (68 : Int32) = nI 68) (by omega) (by decide) dX11_removePoint_39 ?_
      refine lv_lconst (v := (1 : Int64)) hx hb dX11_removePoint_40 rfl ?_
      refine lv_lsub hx hb dX11_removePoint_41 ?_
      refine w_last (f := z3.2.2) (j := 68) hx hb hQ.1 hP hD hS 1 1 rfl rfl (rfl : (68 : Int32) = nI 68) (by omega) (by decide) dX11_removePoint_42 (fun H locs hP hD hS => ?_)
      have hP : va_P D vwCl (wF [gN b0 b2 b1 z3.2.1, gR cL b2 (vp_updL z3.2.2 68 ((z3.2.2 68) - (1 : Int64)))]) H := hP
      have hD : va_D A (wF [gN b0 b2 b1 z3.2.1, gR cL b2 (vp_updL z3.2.2 68 ((z3.2.2 68) - (1 : Int64)))]) := hD
      refine lv_aload_n hx hb dX11_removePoint_43 rfl (lv_at hl 1 rfl) ?_
      refine va_get (D := D) (ci := 11) (v := .ref b2) (C := RX11) (T := TX11) (N := 10) hx hb hts hinX11 hown hQ.1 hP 0 rfl rfl 0 (by decide) (hts (.fieldLink RX11 7 "HeatPumpPlantModel" "row" "[J") (List.mem_of_getElem? (i := 1) rfl)) (fun _ h9 => h9) rfl dX11_removePoint_44 ?_
      refine lv_bipush (v := (68 : Int32)) hx hb dX11_removePoint_47 (by decide) ?_
      refine w_lald (f := (vp_updL z3.2.2 68 ((z3.2.2 68) - (1 : Int64)))) (j := 68) hx hb hQ.1 hP 1 1 rfl rfl (rfl : (68 : Int32) = nI 68) (by omega) (by decide) dX11_removePoint_49 ?_
      refine w_topL (show ((vp_updL z3.2.2 68 ((z3.2.2 68) - (1 : Int64))) 68) = ((z3.2.2 68) - (1 : Int64)) from (w_rds _ _ _)) ?_
      refine lv_l2i hx hb dX11_removePoint_50 rfl ?_
      refine lv_istore_n (lv' := [(3, .int (((z3.2.2 68) - (1 : Int64)).toInt32)), (2, .int (F11_pointAt x1 p1)), (0, .ref b0), (1, .int p1)]) hx hb dX11_removePoint_51 rfl hl (by decide) rfl (fun ls hl => ?_)
      refine lv_aload_n hx hb dX11_removePoint_52 rfl (lv_at hl 2 rfl) ?_
      refine va_get (D := D) (ci := 11) (v := .ref b2) (C := RX11) (T := TX11) (N := 10) hx hb hts hinX11 hown hQ.1 hP 0 rfl rfl 0 (by decide) (hts (.fieldLink RX11 7 "HeatPumpPlantModel" "row" "[J") (List.mem_of_getElem? (i := 1) rfl)) (fun _ h9 => h9) rfl dX11_removePoint_53 ?_
      refine lv_bipush (v := (69 : Int32)) hx hb dX11_removePoint_56 (by decide) ?_
      refine lv_iconst (v := (2 : Int32)) hx hb dX11_removePoint_58 (by decide) ?_
      refine lv_iload_n hx hb dX11_removePoint_59 rfl (lv_at hl 1 rfl) ?_
      refine lv_imul hx hb dX11_removePoint_60 ?_
      refine lv_iadd hx hb dX11_removePoint_61 ?_
      refine lv_aload_n hx hb dX11_removePoint_62 rfl (lv_at hl 2 rfl) ?_
      refine va_get (D := D) (ci := 11) (v := .ref b2) (C := RX11) (T := TX11) (N := 10) hx hb hts hinX11 hown hQ.1 hP 0 rfl rfl 0 (by decide) (hts (.fieldLink RX11 7 "HeatPumpPlantModel" "row" "[J") (List.mem_of_getElem? (i := 1) rfl)) (fun _ h9 => h9) rfl dX11_removePoint_63 ?_
      refine lv_bipush (v := (69 : Int32)) hx hb dX11_removePoint_66 (by decide) ?_
      refine lv_iconst (v := (2 : Int32)) hx hb dX11_removePoint_68 (by decide) ?_
      refine lv_iload_n hx hb dX11_removePoint_69 rfl (lv_at hl 0 rfl) ?_
      refine lv_imul hx hb dX11_removePoint_70 ?_
      refine lv_iadd hx hb dX11_removePoint_71 ?_
      refine w_lald (f := (vp_updL z3.2.2 68 ((z3.2.2 68) - (1 : Int64)))) (j := (69 + (2 * (nT ((z3.2.2 68) - (1 : Int64)))))) hx hb hQ.1 hP 1 1 rfl rfl ((congr (congrArg HAdd.hAdd (show (69 : Int32) = nI 69 from (rfl : (69 : Int32) = nI 69))) (show ((2 : Int32) * ((z3.2.2 68) - (1 : Int64)).toInt32) = nI (2 * (nT ((z3.2.2 68) - (1 : Int64)))) from ((congr (congrArg HMul.hMul (show (2 : Int32) = nI 2 from (rfl : (2 : Int32) = nI 2))) (show ((z3.2.2 68) - (1 : Int64)).toInt32 = nI (nT ((z3.2.2 68) - (1 : Int64))) from (w_nTi (by have h9 := h68_z3.1; omega)))).trans (pk_mul 2 (nT ((z3.2.2 68) - (1 : Int64))))))).trans (nI_add 69 (2 * (nT ((z3.2.2 68) - (1 : Int64)))))) (by omega) (by decide) dX11_removePoint_72 ?_
      refine w_topL (show ((vp_updL z3.2.2 68 ((z3.2.2 68) - (1 : Int64))) (69 + (2 * (nT ((z3.2.2 68) - (1 : Int64)))))) = (z3.2.2 (69 + (2 * (nT ((z3.2.2 68) - (1 : Int64)))))) from (w_rd (by omega) rfl)) ?_
      refine w_last (f := (vp_updL z3.2.2 68 ((z3.2.2 68) - (1 : Int64)))) (j := (69 + (2 * (F11_pointAt x1 p1).toNatClampNeg))) hx hb hQ.1 hP hD hS 1 1 rfl rfl ((congr (congrArg HAdd.hAdd (show (69 : Int32) = nI 69 from (rfl : (69 : Int32) = nI 69))) (show ((2 : Int32) * (F11_pointAt x1 p1)) = nI (2 * (F11_pointAt x1 p1).toNatClampNeg) from ((congr (congrArg HMul.hMul (show (2 : Int32) = nI 2 from (rfl : (2 : Int32) = nI 2))) (show (F11_pointAt x1 p1) = nI ((F11_pointAt x1 p1).toNatClampNeg) from (w_nat (w_nn0 hq7)))).trans (pk_mul 2 ((F11_pointAt x1 p1).toNatClampNeg))))).trans (nI_add 69 (2 * (F11_pointAt x1 p1).toNatClampNeg))) (by omega) (by decide) dX11_removePoint_73 (fun H locs hP hD hS => ?_)
      have hP : va_P D vwCl (wF [gN b0 b2 b1 z3.2.1, gR cL b2 (vp_updL (vp_updL z3.2.2 68 ((z3.2.2 68) - (1 : Int64))) (69 + (2 * (F11_pointAt x1 p1).toNatClampNeg)) (z3.2.2 (69 + (2 * (nT ((z3.2.2 68) - (1 : Int64)))))))]) H := hP
      have hD : va_D A (wF [gN b0 b2 b1 z3.2.1, gR cL b2 (vp_updL (vp_updL z3.2.2 68 ((z3.2.2 68) - (1 : Int64))) (69 + (2 * (F11_pointAt x1 p1).toNatClampNeg)) (z3.2.2 (69 + (2 * (nT ((z3.2.2 68) - (1 : Int64)))))))]) := hD
      refine lv_aload_n hx hb dX11_removePoint_74 rfl (lv_at hl 2 rfl) ?_
      refine va_get (D := D) (ci := 11) (v := .ref b2) (C := RX11) (T := TX11) (N := 10) hx hb hts hinX11 hown hQ.1 hP 0 rfl rfl 0 (by decide) (hts (.fieldLink RX11 7 "HeatPumpPlantModel" "row" "[J") (List.mem_of_getElem? (i := 1) rfl)) (fun _ h9 => h9) rfl dX11_removePoint_75 ?_
      refine lv_bipush (v := (69 : Int32)) hx hb dX11_removePoint_78 (by decide) ?_
      refine lv_iconst (v := (2 : Int32)) hx hb dX11_removePoint_80 (by decide) ?_
      refine lv_iload_n hx hb dX11_removePoint_81 rfl (lv_at hl 1 rfl) ?_
      refine lv_imul hx hb dX11_removePoint_82 ?_
      refine lv_iadd hx hb dX11_removePoint_83 ?_
      refine lv_iconst (v := (1 : Int32)) hx hb dX11_removePoint_84 (by decide) ?_
      refine lv_iadd hx hb dX11_removePoint_85 ?_
      refine lv_aload_n hx hb dX11_removePoint_86 rfl (lv_at hl 2 rfl) ?_
      refine va_get (D := D) (ci := 11) (v := .ref b2) (C := RX11) (T := TX11) (N := 10) hx hb hts hinX11 hown hQ.1 hP 0 rfl rfl 0 (by decide) (hts (.fieldLink RX11 7 "HeatPumpPlantModel" "row" "[J") (List.mem_of_getElem? (i := 1) rfl)) (fun _ h9 => h9) rfl dX11_removePoint_87 ?_
      refine lv_bipush (v := (69 : Int32)) hx hb dX11_removePoint_90 (by decide) ?_
      refine lv_iconst (v := (2 : Int32)) hx hb dX11_removePoint_92 (by decide) ?_
      refine lv_iload_n hx hb dX11_removePoint_93 rfl (lv_at hl 0 rfl) ?_
      refine lv_imul hx hb dX11_removePoint_94 ?_
      refine lv_iadd hx hb dX11_removePoint_95 ?_
      refine lv_iconst (v := (1 : Int32)) hx hb dX11_removePoint_96 (by decide) ?_
      refine lv_iadd hx hb dX11_removePoint_97 ?_
      refine w_lald (f := (vp_updL (vp_updL z3.2.2 68 ((z3.2.2 68) - (1 : Int64))) (69 + (2 * (F11_pointAt x1 p1).toNatClampNeg)) (z3.2.2 (69 + (2 * (nT ((z3.2.2 68) - (1 : Int64)))))))) (j := ((69 + (2 * (nT ((z3.2.2 68) - (1 : Int64))))) + 1)) hx hb hQ.1 hP 1 1 rfl rfl ((congr (congrArg HAdd.hAdd (show ((69 : Int32) + ((2 : Int32) * ((z3.2.2 68) - (1 : Int64)).toInt32)) = nI (69 + (2 * (nT ((z3.2.2 68) - (1 : Int64))))) from ((congr (congrArg HAdd.hAdd (show (69 : Int32) = nI 69 from (rfl : (69 : Int32) = nI 69))) (show ((2 : Int32) * ((z3.2.2 68) - (1 : Int64)).toInt32) = nI (2 * (nT ((z3.2.2 68) - (1 : Int64)))) from ((congr (congrArg HMul.hMul (show (2 : Int32) = nI 2 from (rfl : (2 : Int32) = nI 2))) (show ((z3.2.2 68) - (1 : Int64)).toInt32 = nI (nT ((z3.2.2 68) - (1 : Int64))) from (w_nTi (by have h9 := h68_z3.1; omega)))).trans (pk_mul 2 (nT ((z3.2.2 68) - (1 : Int64))))))).trans (nI_add 69 (2 * (nT ((z3.2.2 68) - (1 : Int64)))))))) (show (1 : Int32) = nI 1 from (rfl : (1 : Int32) = nI 1))).trans (nI_add (69 + (2 * (nT ((z3.2.2 68) - (1 : Int64))))) 1)) (by omega) (by decide) dX11_removePoint_98 ?_
      refine w_last (f := (vp_updL (vp_updL z3.2.2 68 ((z3.2.2 68) - (1 : Int64))) (69 + (2 * (F11_pointAt x1 p1).toNatClampNeg)) (z3.2.2 (69 + (2 * (nT ((z3.2.2 68) - (1 : Int64)))))))) (j := ((69 + (2 * (F11_pointAt x1 p1).toNatClampNeg)) + 1)) hx hb hQ.1 hP hD hS 1 1 rfl rfl ((congr (congrArg HAdd.hAdd (show ((69 : Int32) + ((2 : Int32) * (F11_pointAt x1 p1))) = nI (69 + (2 * (F11_pointAt x1 p1).toNatClampNeg)) from ((congr (congrArg HAdd.hAdd (show (69 : Int32) = nI 69 from (rfl : (69 : Int32) = nI 69))) (show ((2 : Int32) * (F11_pointAt x1 p1)) = nI (2 * (F11_pointAt x1 p1).toNatClampNeg) from ((congr (congrArg HMul.hMul (show (2 : Int32) = nI 2 from (rfl : (2 : Int32) = nI 2))) (show (F11_pointAt x1 p1) = nI ((F11_pointAt x1 p1).toNatClampNeg) from (w_nat (w_nn0 hq7)))).trans (pk_mul 2 ((F11_pointAt x1 p1).toNatClampNeg))))).trans (nI_add 69 (2 * (F11_pointAt x1 p1).toNatClampNeg))))) (show (1 : Int32) = nI 1 from (rfl : (1 : Int32) = nI 1))).trans (nI_add (69 + (2 * (F11_pointAt x1 p1).toNatClampNeg)) 1)) (by omega) (by decide) dX11_removePoint_99 (fun H locs hP hD hS => ?_)
      have hP : va_P D vwCl (wF [gN b0 b2 b1 z3.2.1, gR cL b2 (vp_updL (vp_updL (vp_updL z3.2.2 68 ((z3.2.2 68) - (1 : Int64))) (69 + (2 * (F11_pointAt x1 p1).toNatClampNeg)) (z3.2.2 (69 + (2 * (nT ((z3.2.2 68) - (1 : Int64))))))) ((69 + (2 * (F11_pointAt x1 p1).toNatClampNeg)) + 1) ((vp_updL (vp_updL z3.2.2 68 ((z3.2.2 68) - (1 : Int64))) (69 + (2 * (F11_pointAt x1 p1).toNatClampNeg)) (z3.2.2 (69 + (2 * (nT ((z3.2.2 68) - (1 : Int64))))))) ((69 + (2 * (nT ((z3.2.2 68) - (1 : Int64))))) + 1)))]) H := hP
      have hD : va_D A (wF [gN b0 b2 b1 z3.2.1, gR cL b2 (vp_updL (vp_updL (vp_updL z3.2.2 68 ((z3.2.2 68) - (1 : Int64))) (69 + (2 * (F11_pointAt x1 p1).toNatClampNeg)) (z3.2.2 (69 + (2 * (nT ((z3.2.2 68) - (1 : Int64))))))) ((69 + (2 * (F11_pointAt x1 p1).toNatClampNeg)) + 1) ((vp_updL (vp_updL z3.2.2 68 ((z3.2.2 68) - (1 : Int64))) (69 + (2 * (F11_pointAt x1 p1).toNatClampNeg)) (z3.2.2 (69 + (2 * (nT ((z3.2.2 68) - (1 : Int64))))))) ((69 + (2 * (nT ((z3.2.2 68) - (1 : Int64))))) + 1)))]) := hD
      refine lv_iload_n hx hb dX11_removePoint_100 rfl (lv_at hl 0 rfl) ?_
      exact W.iret (v := ((z3.2.2 68) - (1 : Int64)).toInt32) hx hb hr (fun t ht hW => ⟨⟨((z3.2.2 68) - (1 : Int64)).toInt32, (z3.2.1, (vp_updL (vp_updL (vp_updL z3.2.2 68 ((z3.2.2 68) - (1 : Int64))) (69 + (2 * (F11_pointAt x1 p1).toNatClampNeg)) (z3.2.2 (69 + (2 * (nT ((z3.2.2 68) - (1 : Int64))))))) ((69 + (2 * (F11_pointAt x1 p1).toNatClampNeg)) + 1) ((vp_updL (vp_updL z3.2.2 68 ((z3.2.2 68) - (1 : Int64))) (69 + (2 * (F11_pointAt x1 p1).toNatClampNeg)) (z3.2.2 (69 + (2 * (nT ((z3.2.2 68) - (1 : Int64))))))) ((69 + (2 * (nT ((z3.2.2 68) - (1 : Int64))))) + 1)))), rfl, ((Eq.trans (if_pos c1) (Eq.trans (if_neg c2) (Eq.trans (congrArg (K11_removePoint_1 x0 x1 p1) hz3.symm) (rfl)))).symm), by rw [ht]; exact hP, hD⟩, hS.F ht⟩) hS.2.2 dX11_removePoint_101
    · have c2 : (x1 68) = (1 : Int64) := c2
      refine lv_bipush (v := (-2 : Int32)) hx hb dX11_removePoint_24 (by decide) ?_
      exact W.iret (v := (-2 : Int32)) hx hb hr (fun t ht hW => ⟨⟨(-2 : Int32), (x0, x1), rfl, ((Eq.trans (if_pos c1) (Eq.trans (if_pos c2) (rfl))).symm), by rw [ht]; exact hP, hD⟩, hS.F ht⟩) hS.2.2 dX11_removePoint_26
  · have c1 : ¬ ((0 : Int32) ≤ (F11_pointAt x1 p1)) := c1
    refine lv_iconst (v := (-1 : Int32)) hx hb dX11_removePoint_10 (by decide) ?_
    exact W.iret (v := (-1 : Int32)) hx hb hr (fun t ht hW => ⟨⟨(-1 : Int32), (x0, x1), rfl, ((Eq.trans (if_neg c1) (rfl)).symm), by rw [ht]; exact hP, hD⟩, hS.F ht⟩) hS.2.2 dX11_removePoint_11
def F11_type (x0 : MoN) (x1 : SS) (p1 : Int32) : Int32 × MoN × SS := (if (F11_in p1.toInt64 (32 : Int64) (126 : Int64)) = true then (if x0.2.1 = 100 then ((-3 : Int32), (x0, x1)) else ((nI (x0.2.1 + 1)), ((x0.1, (x0.2.1 + 1), x0.2.2.1, x0.2.2.2.1, x0.2.2.2.2.1, x0.2.2.2.2.2.1, x0.2.2.2.2.2.2.1, x0.2.2.2.2.2.2.2), (upd x1 x0.2.1 p1)))) else ((-1 : Int32), (x0, x1)))
set_option maxHeartbeats 4000000 in
set_option maxRecDepth 100000 in
theorem m11_type (l : Launch) (D : va_G) (cI cL cP : ClassId) (b0 : Nat) (b1 : Nat) (b2 : Nat) (x0 : MoN) (x1 : SS) (p1 : Int32) (hlen : x0.2.1 ≤ 100) (sz : Nat) : Met l yX11_type wsX11_type ({ frames := 1, cells := 0, slots := 0, locals := 25 }) (va_Pc [.ref b0, .int p1] (pM D cI cL cP sz (wF [gN b0 b1 b2 x0, gI cI b2 100 x1]))) (va_Qi (fun (r : Int32) (w : MoN × SS) => (r, w) = F11_type x0 x1 p1) (qW D (va_A (wF [gN b0 b1 b2 x0, gI cI b2 100 x1]) sz) (fun w : MoN × SS => (wF [gN b0 b1 b2 w.1, gI cI b2 100 w.2]))) (va_A (wF [gN b0 b1 b2 x0, gI cI b2 100 x1]) sz)) 0 0 (va_A (wF [gN b0 b1 b2 x0, gI cI b2 100 x1]) sz) := by
  refine Met.ofW (cc := cX11_type) (maxL := 2) (ret := (some .int)) (by decide) rfl ?_
  intro p e s m args below meth c s₁ B hml hv
  obtain ⟨rfl, hsz, hP, hQ, hD0⟩ := hv
  have hx := B.exec
  have hb := B.bytes
  have hr := B.returns
  have hts := atoms_spec (ws := wsX11_type) B.pre
  have hown : s.vm.findClass RX11 = some m.cls := findClass_of_methodNamed B.named
  have hlocks := B.notSynchronized
  subst hsz
  have hD := hD0.self (sz := s.heap.size)
  generalize hAe : va_A (wF [gN b0 b1 b2 x0, gI cI b2 100 x1]) s.heap.size = A at hD ⊢
  have hA : ∀ q : Nat, s.heap.size ≤ q → A q := fun q h => by rw [← hAe]; exact Or.inr h
  have hS : va_S A s.heap s.heap [] := va_S.rf
  have hP : va_P D vwCl (wF [gN b0 b1 b2 x0, gI cI b2 100 x1]) s.heap := hP
  have hl := lv_entry ([.ref b0, .int p1]) (n := 2) (Nat.le_of_ble_eq_true rfl)
  rw [lg_entry_eq]
  generalize (lg_sl ([.ref b0, .int p1]) ++ List.replicate (2 - (lg_sl ([.ref b0, .int p1])).length) Slot.unset).toArray = ls at hl ⊢
  have hl : lv_has ls 2 [(0, .ref b0), (1, .int p1)] := hl
  have hinX11 : ∀ w ∈ wsX110, w ∈ wsX11_type := fun _ h => List.mem_cons_of_mem _ (List.mem_append_right _ h)
  refine lv_iload_n hx hb dX11_type_0 rfl (lv_at hl 1 rfl) ?_
  refine lv_i2l hx hb dX11_type_1 rfl ?_
  refine lv_ldc2 (own := RX11) (index := 197) (v := (32 : Int64)) hx hb hown (hts (.constantLong RX11 197 (32)) (List.mem_of_getElem? (i := 1) rfl)) dX11_type_2 ?_
  refine lv_ldc2 (own := RX11) (index := 199) (v := (126 : Int64)) hx hb hown (hts (.constantLong RX11 199 (126)) (List.mem_of_getElem? (i := 2) rfl)) dX11_type_5 ?_
  have hPc : va_P D vwCl (wF []) s.heap := hP.sub [] rfl
  refine c_Ri (va_runS (As := [.long p1.toInt64, .long (32 : Int64), .long (126 : Int64)]) (rest := []) ⟨hx, hb, hml, hown, hts⟩ (m11_in l D cI cL cP p1.toInt64 (32 : Int64) (126 : Int64) s.heap) (va_cwS 3 hts gX11_type_X11_in rfl rfl rfl (by decide +kernel) ⟨Nat.le_of_ble_eq_true rfl, Nat.le_of_ble_eq_true rfl⟩) (preR_S hQ hPc) rfl rfl hl.1 rfl (lv_room (Nat.le_of_ble_eq_true rfl)) dX11_type_8 ⟨Nat.le_of_ble_eq_true rfl, Nat.le_of_ble_eq_true rfl⟩) hS (fun locs hS => ?_)
  refine lv_if_ne (tgt := 16) hx hb dX11_type_11 (by decide) (fun c1 => ?_) (fun c1 => ?_)
  · have c1 : (F11_in p1.toInt64 (32 : Int64) (126 : Int64)) = true := bI_1.mp c1
    refine lv_aload_n hx hb dX11_type_16 rfl (lv_at hl 0 rfl) ?_
    refine va_get (D := D) (ci := 11) (v := .int (nI x0.2.1)) (C := RX11) (T := TX11) (N := 10) hx hb hts hinX11 hown hQ.1 hP 0 rfl rfl 3 (by decide) (hts (.fieldLink RX11 201 "HeatPumpPlantModel" "length" "I") (List.mem_of_getElem? (i := 3) rfl)) (fun _ h9 => h9) rfl dX11_type_17 ?_
    refine lv_bipush (v := (100 : Int32)) hx hb dX11_type_20 (by decide) ?_
    refine lv_icmp_ne (tgt := 28) hx hb dX11_type_22 (by decide) (fun c2 => ?_) (fun c2 => ?_)
    · have c2 : ¬ (x0.2.1 = 100) := fun h9 => c2 ((nI_eq (a := x0.2.1) (b := 100) (by omega) (by omega)).mpr h9)
      refine lv_aload_n hx hb dX11_type_28 rfl (lv_at hl 0 rfl) ?_
      refine va_get (D := D) (ci := 11) (v := .ref b2) (C := RX11) (T := TX11) (N := 10) hx hb hts hinX11 hown hQ.1 hP 0 rfl rfl 2 (by decide) (hts (.fieldLink RX11 13 "HeatPumpPlantModel" "text" "[I") (List.mem_of_getElem? (i := 4) rfl)) (fun _ h9 => h9) rfl dX11_type_29 ?_
      refine lv_aload_n hx hb dX11_type_32 rfl (lv_at hl 0 rfl) ?_
      refine va_get (D := D) (ci := 11) (v := .int (nI x0.2.1)) (C := RX11) (T := TX11) (N := 10) hx hb hts hinX11 hown hQ.1 hP 0 rfl rfl 3 (by decide) (hts (.fieldLink RX11 201 "HeatPumpPlantModel" "length" "I") (List.mem_of_getElem? (i := 3) rfl)) (fun _ h9 => h9) rfl dX11_type_33 ?_
      refine lv_iload_n hx hb dX11_type_36 rfl (lv_at hl 1 rfl) ?_
      refine w_iast (f := x1) (j := x0.2.1) hx hb hQ.1 hP hD hS 1 0 rfl rfl rfl (by omega) (by decide) dX11_type_37 (fun H locs hP hD hS => ?_)
      have hP : va_P D vwCl (wF [gN b0 b1 b2 x0, gI cI b2 100 (upd x1 x0.2.1 p1)]) H := hP
      have hD : va_D A (wF [gN b0 b1 b2 x0, gI cI b2 100 (upd x1 x0.2.1 p1)]) := hD
      refine lv_aload_n hx hb dX11_type_38 rfl (lv_at hl 0 rfl) ?_
      refine lv_dup hx hb dX11_type_39 rfl ?_
      refine va_get (D := D) (ci := 11) (v := .int (nI x0.2.1)) (C := RX11) (T := TX11) (N := 10) hx hb hts hinX11 hown hQ.1 hP 0 rfl rfl 3 (by decide) (hts (.fieldLink RX11 201 "HeatPumpPlantModel" "length" "I") (List.mem_of_getElem? (i := 3) rfl)) (fun _ h9 => h9) rfl dX11_type_40 ?_
      refine lv_iconst (v := (1 : Int32)) hx hb dX11_type_43 (by decide) ?_
      refine lv_iadd hx hb dX11_type_44 ?_
      refine va_put (D := D) (ci := 11) (v := .int ((nI x0.2.1) + (1 : Int32))) (ty := .int) (C := RX11) (T := TX11) (N := 10) hx hb hts hinX11 tyX11 tyX11_ok nmX11 hown hQ.1 hP hD hS 0 rfl rfl 3 (by decide) (hts (.fieldLink RX11 201 "HeatPumpPlantModel" "length" "I") (List.mem_of_getElem? (i := 3) rfl)) (fun _ h9 => h9) rfl (by decide +kernel) rfl rfl (Nat.le_of_ble_eq_true rfl) dX11_type_45 (fun H locs hP hD hS => ?_)
      rw [show ((nI x0.2.1) + (1 : Int32)) = nI (x0.2.1 + 1) from ((congr (congrArg HAdd.hAdd (show (nI x0.2.1) = nI x0.2.1 from rfl)) (show (1 : Int32) = nI 1 from (rfl : (1 : Int32) = nI 1))).trans (nI_add x0.2.1 1))] at hP hD
      have hP : va_P D vwCl (wF [gN b0 b1 b2 (x0.1, (x0.2.1 + 1), x0.2.2.1, x0.2.2.2.1, x0.2.2.2.2.1, x0.2.2.2.2.2.1, x0.2.2.2.2.2.2.1, x0.2.2.2.2.2.2.2), gI cI b2 100 (upd x1 x0.2.1 p1)]) H := hP
      have hD : va_D A (wF [gN b0 b1 b2 (x0.1, (x0.2.1 + 1), x0.2.2.1, x0.2.2.2.1, x0.2.2.2.2.1, x0.2.2.2.2.2.1, x0.2.2.2.2.2.2.1, x0.2.2.2.2.2.2.2), gI cI b2 100 (upd x1 x0.2.1 p1)]) := hD
      refine lv_aload_n hx hb dX11_type_48 rfl (lv_at hl 0 rfl) ?_
      refine va_get (D := D) (ci := 11) (v := .int (nI (x0.2.1 + 1))) (C := RX11) (T := TX11) (N := 10) hx hb hts hinX11 hown hQ.1 hP 0 rfl rfl 3 (by decide) (hts (.fieldLink RX11 201 "HeatPumpPlantModel" "length" "I") (List.mem_of_getElem? (i := 3) rfl)) (fun _ h9 => h9) rfl dX11_type_49 ?_
      exact W.iret (v := (nI (x0.2.1 + 1))) hx hb hr (fun t ht hW => ⟨⟨(nI (x0.2.1 + 1)), ((x0.1, (x0.2.1 + 1), x0.2.2.1, x0.2.2.2.1, x0.2.2.2.2.1, x0.2.2.2.2.2.1, x0.2.2.2.2.2.2.1, x0.2.2.2.2.2.2.2), (upd x1 x0.2.1 p1)), rfl, ((Eq.trans (if_pos c1) (Eq.trans (if_neg c2) (rfl))).symm), by rw [ht]; exact hP, hD⟩, hS.F ht⟩) hS.2.2 dX11_type_52
    · have c2 : x0.2.1 = 100 := (nI_eq (a := x0.2.1) (b := 100) (by omega) (by omega)).mp c2
      refine lv_bipush (v := (-3 : Int32)) hx hb dX11_type_25 (by decide) ?_
      exact W.iret (v := (-3 : Int32)) hx hb hr (fun t ht hW => ⟨⟨(-3 : Int32), (x0, x1), rfl, ((Eq.trans (if_pos c1) (Eq.trans (if_pos c2) (rfl))).symm), by rw [ht]; exact hP, hD⟩, hS.F ht⟩) hS.2.2 dX11_type_27
  · have c1 : ¬ ((F11_in p1.toInt64 (32 : Int64) (126 : Int64)) = true) := bI_0.mp c1
    refine lv_iconst (v := (-1 : Int32)) hx hb dX11_type_14 (by decide) ?_
    exact W.iret (v := (-1 : Int32)) hx hb hr (fun t ht hW => ⟨⟨(-1 : Int32), (x0, x1), rfl, ((Eq.trans (if_neg c1) (rfl)).symm), by rw [ht]; exact hP, hD⟩, hS.F ht⟩) hS.2.2 dX11_type_15
def F11_clearText (x0 : MoN) : Int32 × MoN := ((nI x0.2.1), (x0.1, 0, x0.2.2.1, x0.2.2.2.1, x0.2.2.2.2.1, x0.2.2.2.2.2.1, x0.2.2.2.2.2.2.1, x0.2.2.2.2.2.2.2))
set_option maxHeartbeats 4000000 in
set_option maxRecDepth 100000 in
theorem m11_clearText (l : Launch) (D : va_G) (cI cL cP : ClassId) (b0 : Nat) (b1 : Nat) (b2 : Nat) (x0 : MoN) (hlen : x0.2.1 ≤ 100) (sz : Nat) : Met l yX11_clearText wsX11_clearText ({ frames := 0, cells := 0, slots := 0, locals := 0 }) (va_Pc [.ref b0] (pM D cI cL cP sz (wF [gN b0 b1 b2 x0]))) (va_Qi (fun (r : Int32) (w : MoN) => (r, w) = F11_clearText x0) (qW D (va_A (wF [gN b0 b1 b2 x0]) sz) (fun w : MoN => (wF [gN b0 b1 b2 w]))) (va_A (wF [gN b0 b1 b2 x0]) sz)) 0 0 (va_A (wF [gN b0 b1 b2 x0]) sz) := by
  refine Met.ofW (cc := cX11_clearText) (maxL := 2) (ret := (some .int)) (by decide) rfl ?_
  intro p e s m args below meth c s₁ B hml hv
  obtain ⟨rfl, hsz, hP, hQ, hD0⟩ := hv
  have hx := B.exec
  have hb := B.bytes
  have hr := B.returns
  have hts := atoms_spec (ws := wsX11_clearText) B.pre
  have hown : s.vm.findClass RX11 = some m.cls := findClass_of_methodNamed B.named
  have hlocks := B.notSynchronized
  subst hsz
  have hD := hD0.self (sz := s.heap.size)
  generalize hAe : va_A (wF [gN b0 b1 b2 x0]) s.heap.size = A at hD ⊢
  have hA : ∀ q : Nat, s.heap.size ≤ q → A q := fun q h => by rw [← hAe]; exact Or.inr h
  have hS : va_S A s.heap s.heap [] := va_S.rf
  have hP : va_P D vwCl (wF [gN b0 b1 b2 x0]) s.heap := hP
  have hl := lv_entry ([.ref b0]) (n := 2) (Nat.le_of_ble_eq_true rfl)
  rw [lg_entry_eq]
  generalize (lg_sl ([.ref b0]) ++ List.replicate (2 - (lg_sl ([.ref b0])).length) Slot.unset).toArray = ls at hl ⊢
  have hl : lv_has ls 2 [(0, .ref b0)] := hl
  have hinX11 : ∀ w ∈ wsX110, w ∈ wsX11_clearText := fun _ h => List.mem_cons_of_mem _ (List.mem_append_right _ h)
  refine lv_aload_n hx hb dX11_clearText_0 rfl (lv_at hl 0 rfl) ?_
  refine va_get (D := D) (ci := 11) (v := .int (nI x0.2.1)) (C := RX11) (T := TX11) (N := 10) hx hb hts hinX11 hown hQ.1 hP 0 rfl rfl 3 (by decide) (hts (.fieldLink RX11 201 "HeatPumpPlantModel" "length" "I") (List.mem_of_getElem? (i := 1) rfl)) (fun _ h9 => h9) rfl dX11_clearText_1 ?_
  refine lv_istore_n (lv' := [(1, .int (nI x0.2.1)), (0, .ref b0)]) hx hb dX11_clearText_4 rfl hl (by decide) rfl (fun ls hl => ?_)
  refine lv_aload_n hx hb dX11_clearText_5 rfl (lv_at hl 1 rfl) ?_
  refine lv_iconst (v := (0 : Int32)) hx hb dX11_clearText_6 (by decide) ?_
  refine va_put (D := D) (ci := 11) (v := .int (0 : Int32)) (ty := .int) (C := RX11) (T := TX11) (N := 10) hx hb hts hinX11 tyX11 tyX11_ok nmX11 hown hQ.1 hP hD hS 0 rfl rfl 3 (by decide) (hts (.fieldLink RX11 201 "HeatPumpPlantModel" "length" "I") (List.mem_of_getElem? (i := 1) rfl)) (fun _ h9 => h9) rfl (by decide +kernel) rfl rfl (Nat.le_of_ble_eq_true rfl) dX11_clearText_7 (fun H locs hP hD hS => ?_)
  rw [show (0 : Int32) = nI 0 from (rfl : (0 : Int32) = nI 0)] at hP hD
  have hP : va_P D vwCl (wF [gN b0 b1 b2 (x0.1, 0, x0.2.2.1, x0.2.2.2.1, x0.2.2.2.2.1, x0.2.2.2.2.2.1, x0.2.2.2.2.2.2.1, x0.2.2.2.2.2.2.2)]) H := hP
  have hD : va_D A (wF [gN b0 b1 b2 (x0.1, 0, x0.2.2.1, x0.2.2.2.1, x0.2.2.2.2.1, x0.2.2.2.2.2.1, x0.2.2.2.2.2.2.1, x0.2.2.2.2.2.2.2)]) := hD
  refine lv_iload_n hx hb dX11_clearText_10 rfl (lv_at hl 0 rfl) ?_
  exact W.iret (v := (nI x0.2.1)) hx hb hr (fun t ht hW => ⟨⟨(nI x0.2.1), (x0.1, 0, x0.2.2.1, x0.2.2.2.1, x0.2.2.2.2.1, x0.2.2.2.2.2.1, x0.2.2.2.2.2.2.1, x0.2.2.2.2.2.2.2), rfl, ((rfl).symm), by rw [ht]; exact hP, hD⟩, hS.F ht⟩) hS.2.2 dX11_clearText_11
def F11_peek (x0 : MoN) (x1 : SS) : Int32 := (if x0.2.1 ≤ x0.2.2.1 then (-1 : Int32) else (x1 x0.2.2.1))
set_option maxHeartbeats 4000000 in
set_option maxRecDepth 100000 in
theorem m11_peek (l : Launch) (D : va_G) (cI cL cP : ClassId) (b0 : Nat) (b1 : Nat) (b2 : Nat) (x0 : MoN) (x1 : SS) (hat : x0.2.2.1 ≤ x0.2.1) (hlen : x0.2.1 ≤ 100) (H0 : Heap) : Met l yX11_peek wsX11_peek ({ frames := 0, cells := 0, slots := 0, locals := 0 }) (va_Pc [.ref b0] (pR D cI cL cP H0 (wF [gN b0 b1 b2 x0, gI cI b2 100 x1]))) (va_Qi (fun (r : Int32) (_ : Unit) => r = F11_peek x0 x1) (qE H0) nF) 0 0 nF := by
  refine Met.ofW (cc := cX11_peek) (maxL := 1) (ret := (some .int)) (by decide) rfl ?_
  intro p e s m args below meth c s₁ B hml hv
  obtain ⟨rfl, rfl, hP, hQ⟩ := hv
  have hx := B.exec
  have hb := B.bytes
  have hr := B.returns
  have hts := atoms_spec (ws := wsX11_peek) B.pre
  have hown : s.vm.findClass RX11 = some m.cls := findClass_of_methodNamed B.named
  have hlocks := B.notSynchronized
  have hS : va_S nF s.heap s.heap [] := va_S.rf
  have hl := lv_entry ([.ref b0]) (n := 1) (Nat.le_of_ble_eq_true rfl)
  rw [lg_entry_eq]
  generalize (lg_sl ([.ref b0]) ++ List.replicate (1 - (lg_sl ([.ref b0])).length) Slot.unset).toArray = ls at hl ⊢
  have hl : lv_has ls 1 [(0, .ref b0)] := hl
  have hinX11 : ∀ w ∈ wsX110, w ∈ wsX11_peek := fun _ h => List.mem_cons_of_mem _ (List.mem_append_right _ h)
  refine lv_aload_n hx hb dX11_peek_0 rfl (lv_at hl 0 rfl) ?_
  refine va_get (D := D) (ci := 11) (v := .int (nI x0.2.2.1)) (C := RX11) (T := TX11) (N := 10) hx hb hts hinX11 hown hQ.1 hP 0 rfl rfl 4 (by decide) (hts (.fieldLink RX11 204 "HeatPumpPlantModel" "at" "I") (List.mem_of_getElem? (i := 1) rfl)) (fun _ h9 => h9) rfl dX11_peek_1 ?_
  refine lv_aload_n hx hb dX11_peek_4 rfl (lv_at hl 0 rfl) ?_
  refine va_get (D := D) (ci := 11) (v := .int (nI x0.2.1)) (C := RX11) (T := TX11) (N := 10) hx hb hts hinX11 hown hQ.1 hP 0 rfl rfl 3 (by decide) (hts (.fieldLink RX11 201 "HeatPumpPlantModel" "length" "I") (List.mem_of_getElem? (i := 2) rfl)) (fun _ h9 => h9) rfl dX11_peek_5 ?_
  refine w_diaI (rest := []) (K := x0.2.1 ≤ x0.2.2.1) 24 (-1 : Int32) (x1 x0.2.2.1) (fun kt kf => ?_) ?_
  · refine lv_icmp_ge (tgt := 23) hx hb dX11_peek_8 (by decide) (fun c1 => ?_) (fun c1 => ?_)
    · have c1 : x0.2.1 ≤ x0.2.2.1 := (nI_leI (a := x0.2.1) (b := x0.2.2.1) (by omega) (by omega)).mp c1
      refine lv_iconst (v := (-1 : Int32)) hx hb dX11_peek_23 (by decide) ?_
      exact kt c1
    · have c1 : ¬ (x0.2.1 ≤ x0.2.2.1) := fun h9 => c1 ((nI_leI (a := x0.2.1) (b := x0.2.2.1) (by omega) (by omega)).mpr h9)
      refine lv_aload_n hx hb dX11_peek_11 rfl (lv_at hl 0 rfl) ?_
      refine va_get (D := D) (ci := 11) (v := .ref b2) (C := RX11) (T := TX11) (N := 10) hx hb hts hinX11 hown hQ.1 hP 0 rfl rfl 2 (by decide) (hts (.fieldLink RX11 13 "HeatPumpPlantModel" "text" "[I") (List.mem_of_getElem? (i := 3) rfl)) (fun _ h9 => h9) rfl dX11_peek_12 ?_
      refine lv_aload_n hx hb dX11_peek_15 rfl (lv_at hl 0 rfl) ?_
      refine va_get (D := D) (ci := 11) (v := .int (nI x0.2.2.1)) (C := RX11) (T := TX11) (N := 10) hx hb hts hinX11 hown hQ.1 hP 0 rfl rfl 4 (by decide) (hts (.fieldLink RX11 204 "HeatPumpPlantModel" "at" "I") (List.mem_of_getElem? (i := 1) rfl)) (fun _ h9 => h9) rfl dX11_peek_16 ?_
      refine w_iald (f := x1) (j := x0.2.2.1) hx hb hQ.1 hP 1 0 rfl rfl rfl (by omega) (by decide) dX11_peek_19 ?_
      refine lv_goto (tgt := 24) hx hb dX11_peek_20 (by decide) ?_
      exact kf c1
  exact W.iret (v := (if x0.2.1 ≤ x0.2.2.1 then (-1 : Int32) else (x1 x0.2.2.1))) hx hb hr (fun t ht hW => ⟨⟨(if x0.2.1 ≤ x0.2.2.1 then (-1 : Int32) else (x1 x0.2.2.1)), (), rfl, ((rfl).symm), ht⟩, hS.F ht⟩) hS.2.2 dX11_peek_24
def F11_isDigit (x0 : MoN) (x1 : SS) (p1 : Int32) (p2 : Int32) : Bool := (F11_in ((F11_peek x0 x1).toInt64) (((48 : Int32) + p1).toInt64) (((48 : Int32) + p2).toInt64))
set_option maxHeartbeats 4000000 in
set_option maxRecDepth 100000 in
theorem m11_isDigit (l : Launch) (D : va_G) (cI cL cP : ClassId) (b0 : Nat) (b1 : Nat) (b2 : Nat) (x0 : MoN) (x1 : SS) (p1 : Int32) (p2 : Int32) (hat : x0.2.2.1 ≤ x0.2.1) (hlen : x0.2.1 ≤ 100) (H0 : Heap) : Met l yX11_isDigit wsX11_isDigit ({ frames := 1, cells := 0, slots := 0, locals := 25 }) (va_Pc [.ref b0, .int p1, .int p2] (pR D cI cL cP H0 (wF [gN b0 b1 b2 x0, gI cI b2 100 x1]))) (va_Qi (fun (r : Int32) (_ : Unit) => r = bI (F11_isDigit x0 x1 p1 p2)) (qE H0) nF) 0 0 nF := by
  refine Met.ofW (cc := cX11_isDigit) (maxL := 3) (ret := (some .boolean)) (by decide) rfl ?_
  intro p e s m args below meth c s₁ B hml hv
  obtain ⟨rfl, rfl, hP, hQ⟩ := hv
  have hx := B.exec
  have hb := B.bytes
  have hr := B.returns
  have hts := atoms_spec (ws := wsX11_isDigit) B.pre
  have hown : s.vm.findClass RX11 = some m.cls := findClass_of_methodNamed B.named
  have hlocks := B.notSynchronized
  have hS : va_S nF s.heap s.heap [] := va_S.rf
  have hl := lv_entry ([.ref b0, .int p1, .int p2]) (n := 3) (Nat.le_of_ble_eq_true rfl)
  rw [lg_entry_eq]
  generalize (lg_sl ([.ref b0, .int p1, .int p2]) ++ List.replicate (3 - (lg_sl ([.ref b0, .int p1, .int p2])).length) Slot.unset).toArray = ls at hl ⊢
  have hl : lv_has ls 3 [(0, .ref b0), (1, .int p1), (2, .int p2)] := hl
  have hinX11 : ∀ w ∈ wsX110, w ∈ wsX11_isDigit := fun _ h => List.mem_cons_of_mem _ (List.mem_append_right _ h)
  refine lv_aload_n hx hb dX11_isDigit_0 rfl (lv_at hl 0 rfl) ?_
  have hPc : va_P D vwCl (wF [gN b0 b1 b2 x0, gI cI b2 100 x1]) s.heap := hP.sub [0, 1] rfl
  refine c_Ri (va_runV (As := []) (rest := []) ⟨hx, hb, hml, hown, hts⟩ (m11_peek l D cI cL cP b0 b1 b2 x0 x1 (by omega) (by omega) s.heap) (cwV 0 hts gX11_isDigit_X11_peek rfl rfl rfl (by decide +kernel) ⟨Nat.le_of_ble_eq_true rfl, Nat.le_of_ble_eq_true rfl⟩) (preR_V (q := (RX11, TX11, 10)) (q0 := 0) hQ hPc rfl rfl) rfl rfl hl.1 rfl (lv_room (Nat.le_of_ble_eq_true rfl)) dX11_isDigit_1 ⟨Nat.le_of_ble_eq_true rfl, Nat.le_of_ble_eq_true rfl⟩) hS (fun locs hS => ?_)
  refine lv_i2l hx hb dX11_isDigit_4 rfl ?_
  refine lv_bipush (v := (48 : Int32)) hx hb dX11_isDigit_5 (by decide) ?_
  refine lv_iload_n hx hb dX11_isDigit_7 rfl (lv_at hl 1 rfl) ?_
  refine lv_iadd hx hb dX11_isDigit_8 ?_
  refine lv_i2l hx hb dX11_isDigit_9 rfl ?_
  refine lv_bipush (v := (48 : Int32)) hx hb dX11_isDigit_10 (by decide) ?_
  refine lv_iload_n hx hb dX11_isDigit_12 rfl (lv_at hl 2 rfl) ?_
  refine lv_iadd hx hb dX11_isDigit_13 ?_
  refine lv_i2l hx hb dX11_isDigit_14 rfl ?_
  have hPc : va_P D vwCl (wF []) s.heap := hP.sub [] rfl
  refine c_Ri (va_runS (As := [.long ((F11_peek x0 x1).toInt64), .long (((48 : Int32) + p1).toInt64), .long (((48 : Int32) + p2).toInt64)]) (rest := []) ⟨hx, hb, hml, hown, hts⟩ (m11_in l D cI cL cP ((F11_peek x0 x1).toInt64) (((48 : Int32) + p1).toInt64) (((48 : Int32) + p2).toInt64) s.heap) (va_cwS 3 hts gX11_isDigit_X11_in rfl rfl rfl (by decide +kernel) ⟨Nat.le_of_ble_eq_true rfl, Nat.le_of_ble_eq_true rfl⟩) (preR_S hQ hPc) rfl rfl hl.1 rfl (lv_room (Nat.le_of_ble_eq_true rfl)) dX11_isDigit_15 ⟨Nat.le_of_ble_eq_true rfl, Nat.le_of_ble_eq_true rfl⟩) hS (fun locs hS => ?_)
  exact W.zret (v := (bI (F11_in ((F11_peek x0 x1).toInt64) (((48 : Int32) + p1).toInt64) (((48 : Int32) + p2).toInt64)))) (ty := .boolean) hx hb hr (bI_n _) (fun t ht hW => ⟨⟨(bI (F11_in ((F11_peek x0 x1).toInt64) (((48 : Int32) + p1).toInt64) (((48 : Int32) + p2).toInt64))), (), rfl, ((congrArg bI (show F11_isDigit x0 x1 p1 p2 = (F11_in ((F11_peek x0 x1).toInt64) (((48 : Int32) + p1).toInt64) (((48 : Int32) + p2).toInt64)) from rfl)).symm), ht⟩, hS.F ht⟩) hS.2.2 dX11_isDigit_18
def F11_takes (x0 : MoN) (x1 : SS) (p1 : Int32) : Bool × MoN := ((decide ((F11_peek x0 x1) = p1)), (x0.1, x0.2.1, ((x0.2.2.1 + (if (F11_peek x0 x1) = p1 then 1 else 0))), x0.2.2.2.1, x0.2.2.2.2.1, x0.2.2.2.2.2.1, x0.2.2.2.2.2.2.1, x0.2.2.2.2.2.2.2))
set_option maxHeartbeats 4000000 in
set_option maxRecDepth 100000 in
theorem m11_takes (l : Launch) (D : va_G) (cI cL cP : ClassId) (b0 : Nat) (b1 : Nat) (b2 : Nat) (x0 : MoN) (x1 : SS) (p1 : Int32) (hat : x0.2.2.1 ≤ x0.2.1) (hlen : x0.2.1 ≤ 100) (sz : Nat) : Met l yX11_takes wsX11_takes ({ frames := 1, cells := 0, slots := 0, locals := 20 }) (va_Pc [.ref b0, .int p1] (pM D cI cL cP sz (wF [gN b0 b1 b2 x0, gI cI b2 100 x1]))) (va_Qi (fun (r : Int32) (w : MoN) => (r, w) = (bI (F11_takes x0 x1 p1).1, (F11_takes x0 x1 p1).2)) (qW D (va_A (wF [gN b0 b1 b2 x0, gI cI b2 100 x1]) sz) (fun w : MoN => (wF [gN b0 b1 b2 w, gI cI b2 100 x1]))) (va_A (wF [gN b0 b1 b2 x0, gI cI b2 100 x1]) sz)) 0 0 (va_A (wF [gN b0 b1 b2 x0, gI cI b2 100 x1]) sz) := by
  refine Met.ofW (cc := cX11_takes) (maxL := 3) (ret := (some .boolean)) (by decide) rfl ?_
  intro p e s m args below meth c s₁ B hml hv
  obtain ⟨rfl, hsz, hP, hQ, hD0⟩ := hv
  have hx := B.exec
  have hb := B.bytes
  have hr := B.returns
  have hts := atoms_spec (ws := wsX11_takes) B.pre
  have hown : s.vm.findClass RX11 = some m.cls := findClass_of_methodNamed B.named
  have hlocks := B.notSynchronized
  subst hsz
  have hD := hD0.self (sz := s.heap.size)
  generalize hAe : va_A (wF [gN b0 b1 b2 x0, gI cI b2 100 x1]) s.heap.size = A at hD ⊢
  have hA : ∀ q : Nat, s.heap.size ≤ q → A q := fun q h => by rw [← hAe]; exact Or.inr h
  have hS : va_S A s.heap s.heap [] := va_S.rf
  have hP : va_P D vwCl (wF [gN b0 b1 b2 x0, gI cI b2 100 x1]) s.heap := hP
  have hl := lv_entry ([.ref b0, .int p1]) (n := 3) (Nat.le_of_ble_eq_true rfl)
  rw [lg_entry_eq]
  generalize (lg_sl ([.ref b0, .int p1]) ++ List.replicate (3 - (lg_sl ([.ref b0, .int p1])).length) Slot.unset).toArray = ls at hl ⊢
  have hl : lv_has ls 3 [(0, .ref b0), (1, .int p1)] := hl
  have hinX11 : ∀ w ∈ wsX110, w ∈ wsX11_takes := fun _ h => List.mem_cons_of_mem _ (List.mem_append_right _ h)
  refine lv_aload_n hx hb dX11_takes_0 rfl (lv_at hl 0 rfl) ?_
  have hPc : va_P D vwCl (wF [gN b0 b1 b2 x0, gI cI b2 100 x1]) s.heap := hP.sub [0, 1] rfl
  refine c_Ri (va_runV (As := []) (rest := []) ⟨hx, hb, hml, hown, hts⟩ (m11_peek l D cI cL cP b0 b1 b2 x0 x1 (by omega) (by omega) s.heap) (cwV 0 hts gX11_takes_X11_peek rfl rfl rfl (by decide +kernel) ⟨Nat.le_of_ble_eq_true rfl, Nat.le_of_ble_eq_true rfl⟩) (preR_V (q := (RX11, TX11, 10)) (q0 := 0) hQ hPc rfl rfl) rfl rfl hl.1 rfl (lv_room (Nat.le_of_ble_eq_true rfl)) dX11_takes_1 ⟨Nat.le_of_ble_eq_true rfl, Nat.le_of_ble_eq_true rfl⟩) hS (fun locs hS => ?_)
  refine lv_iload_n hx hb dX11_takes_4 rfl (lv_at hl 1 rfl) ?_
  refine w_diaB (rest := []) (K := (F11_peek x0 x1) = p1) 13 (fun kt kf => ?_) ?_
  · refine lv_icmp_ne (tgt := 12) hx hb dX11_takes_5 (by decide) (fun c1 => ?_) (fun c1 => ?_)
    · have c1 : ¬ ((F11_peek x0 x1) = p1) := c1
      refine lv_iconst (v := (0 : Int32)) hx hb dX11_takes_12 (by decide) ?_
      exact kf c1
    · have c1 : (F11_peek x0 x1) = p1 := c1
      refine lv_iconst (v := (1 : Int32)) hx hb dX11_takes_8 (by decide) ?_
      refine lv_goto (tgt := 13) hx hb dX11_takes_9 (by decide) ?_
      exact kt c1
  refine lv_istore_n (lv' := [(2, .int (bI (decide ((F11_peek x0 x1) = p1)))), (0, .ref b0), (1, .int p1)]) hx hb dX11_takes_13 rfl hl (by decide) rfl (fun ls hl => ?_)
  refine lv_aload_n hx hb dX11_takes_14 rfl (lv_at hl 1 rfl) ?_
  refine lv_dup hx hb dX11_takes_15 rfl ?_
  refine va_get (D := D) (ci := 11) (v := .int (nI x0.2.2.1)) (C := RX11) (T := TX11) (N := 10) hx hb hts hinX11 hown hQ.1 hP 0 rfl rfl 4 (by decide) (hts (.fieldLink RX11 204 "HeatPumpPlantModel" "at" "I") (List.mem_of_getElem? (i := 1) rfl)) (fun _ h9 => h9) rfl dX11_takes_16 ?_
  refine lv_iload_n hx hb dX11_takes_19 rfl (lv_at hl 0 rfl) ?_
  refine w_diaB (rest := [.int (nI x0.2.2.1), .ref b0]) (K := (decide ((F11_peek x0 x1) = p1)) = true) 28 (fun kt kf => ?_) ?_
  · refine lv_if_eq (tgt := 27) hx hb dX11_takes_20 (by decide) (fun c2 => ?_) (fun c2 => ?_)
    · have c2 : ¬ ((decide ((F11_peek x0 x1) = p1)) = true) := bI_0.mp c2
      refine lv_iconst (v := (0 : Int32)) hx hb dX11_takes_27 (by decide) ?_
      exact kf c2
    · have c2 : (decide ((F11_peek x0 x1) = p1)) = true := bI_1.mp c2
      refine lv_iconst (v := (1 : Int32)) hx hb dX11_takes_23 (by decide) ?_
      refine lv_goto (tgt := 28) hx hb dX11_takes_24 (by decide) ?_
      exact kt c2
  refine lv_iadd hx hb dX11_takes_28 ?_
  refine w_topn ((x0.2.2.1 + (if (F11_peek x0 x1) = p1 then 1 else 0))) (w_addb x0.2.2.1) ?_
  refine va_put (D := D) (ci := 11) (v := .int (nI ((x0.2.2.1 + (if (F11_peek x0 x1) = p1 then 1 else 0))))) (ty := .int) (C := RX11) (T := TX11) (N := 10) hx hb hts hinX11 tyX11 tyX11_ok nmX11 hown hQ.1 hP hD hS 0 rfl rfl 4 (by decide) (hts (.fieldLink RX11 204 "HeatPumpPlantModel" "at" "I") (List.mem_of_getElem? (i := 1) rfl)) (fun _ h9 => h9) rfl (by decide +kernel) rfl rfl (Nat.le_of_ble_eq_true rfl) dX11_takes_29 (fun H locs hP hD hS => ?_)
  have hP : va_P D vwCl (wF [gN b0 b1 b2 (x0.1, x0.2.1, ((x0.2.2.1 + (if (F11_peek x0 x1) = p1 then 1 else 0))), x0.2.2.2.1, x0.2.2.2.2.1, x0.2.2.2.2.2.1, x0.2.2.2.2.2.2.1, x0.2.2.2.2.2.2.2), gI cI b2 100 x1]) H := hP
  have hD : va_D A (wF [gN b0 b1 b2 (x0.1, x0.2.1, ((x0.2.2.1 + (if (F11_peek x0 x1) = p1 then 1 else 0))), x0.2.2.2.1, x0.2.2.2.2.1, x0.2.2.2.2.2.1, x0.2.2.2.2.2.2.1, x0.2.2.2.2.2.2.2), gI cI b2 100 x1]) := hD
  refine lv_iload_n hx hb dX11_takes_32 rfl (lv_at hl 0 rfl) ?_
  exact W.zret (v := (bI (decide ((F11_peek x0 x1) = p1)))) (ty := .boolean) hx hb hr (bI_n _) (fun t ht hW => ⟨⟨(bI (decide ((F11_peek x0 x1) = p1))), (x0.1, x0.2.1, ((x0.2.2.1 + (if (F11_peek x0 x1) = p1 then 1 else 0))), x0.2.2.2.1, x0.2.2.2.2.1, x0.2.2.2.2.2.1, x0.2.2.2.2.2.2.1, x0.2.2.2.2.2.2.2), rfl, ((congrArg (fun q : Bool × MoN => (bI q.1, q.2)) (show F11_takes x0 x1 p1 = ((decide ((F11_peek x0 x1) = p1)), (x0.1, x0.2.1, ((x0.2.2.1 + (if (F11_peek x0 x1) = p1 then 1 else 0))), x0.2.2.2.1, x0.2.2.2.2.1, x0.2.2.2.2.2.1, x0.2.2.2.2.2.2.1, x0.2.2.2.2.2.2.2)) from rfl)).symm), by rw [ht]; exact hP, hD⟩, hS.F ht⟩) hS.2.2 dX11_takes_33
