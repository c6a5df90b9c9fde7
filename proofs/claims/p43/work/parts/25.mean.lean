/-- a mean percentage, whichever NaNs were drawn -/
def mPc (el pr : Int64) (r : UInt64) : Prop := if el = (0 : Int64) then r = FP.dconst0 else ∃ r1, alike64 r1 (FP.dmul (FP.l2d pr) 4636737291354636288) = true ∧ alike64 r (FP.ddiv r1 (FP.l2d el)) = true
theorem mPc_0 {el pr : Int64} (h : el = 0) : mPc el pr FP.dconst0 := by
  unfold mPc
  rw [if_pos h]
theorem mPc_1 {el pr : Int64} {r1 r : UInt64} (h : ¬ el = 0) (h1 : alike64 r1 (FP.dmul (FP.l2d pr) 4636737291354636288) = true) (h2 : alike64 r (FP.ddiv r1 (FP.l2d el)) = true) : mPc el pr r := by
  unfold mPc
  rw [if_neg h]
  exact ⟨r1, h1, h2⟩
set_option maxHeartbeats 4000000 in
set_option maxRecDepth 100000 in
theorem m10_meanPercentage (l : Launch) (D : va_G) (cI cL cP : ClassId) (b0 : Nat) (b1 : Nat) (b2 : Nat) (b3 : Nat) (a4 : Nat → Nat) (u : PlS) (H0 : Heap) : MetD lw_cs l yX10_meanPercentage wsX10_meanPercentage ({ frames := 0, cells := 0, slots := 0, locals := 0 }) (va_Pc [.ref b0] (pR D cI cL cP H0 (wF [gX b0 (a4 0) b1 b2 b3, gO (a4 0) (a4 1) (a4 3) (a4 7) (a4 10) (a4 12) (a4 14) (a4 16) (pT u), gS cI (a4 1) (a4 2) (pS u), gWe cI (a4 3) (a4 4) (a4 5) (a4 6) (pW u), gK cI (a4 7) (a4 8) (a4 9) (pK u), gB cL (a4 10) (a4 11) (pB u), gP cI (a4 12) (a4 13) (pP u), gA cI (a4 14) (a4 15) (pA u), gC (a4 16) (pC u)]))) (va_Qd (fun (r : UInt64) (_ : Unit) => mPc (F10_electricity u) (F10_produced u) r) (qE H0) nF) 0 0 nF := by
  refine MetD.ofW (cc := cX10_meanPercentage) (maxL := 3) (ret := (some .double)) (by decide) rfl ?_
  intro p e s m args below meth c s₁ B hml hv hd0
  obtain ⟨rfl, rfl, hP, hQ⟩ := hv
  have hx := B.exec
  have hb := B.bytes
  have hr := B.returns
  have hts := atoms_spec (ws := wsX10_meanPercentage) B.pre
  have hown : s.vm.findClass RX10 = some m.cls := findClass_of_methodNamed B.named
  have hlocks := B.notSynchronized
  have hts0 := hts
  have hts := dr_words hts0 s.drawn
  have hQ0 := hQ
  have hQ : kQ D cI cL cP (s.setDrawn s.drawn) := hQ0
  have hS : va_S nF s.heap s.heap [] := va_S.rf
  have hl := lv_entry ([.ref b0]) (n := 3) (Nat.le_of_ble_eq_true rfl)
  rw [lg_entry_eq]
  generalize (lg_sl ([.ref b0]) ++ List.replicate (3 - (lg_sl ([.ref b0])).length) Slot.unset).toArray = ls at hl ⊢
  have hl : lv_has ls 3 [(0, .ref b0)] := hl
  have hinX0 : ∀ w ∈ wsX00, w ∈ wsX10_meanPercentage := fun _ h => List.mem_cons_of_mem _ (List.mem_append_right _ h)
  have hinX5 : ∀ w ∈ wsX50, w ∈ wsX10_meanPercentage := fun _ h => List.mem_cons_of_mem _ (List.mem_append_left _ (List.mem_append_right _ h))
  have hinX10 : ∀ w ∈ wsX100, w ∈ wsX10_meanPercentage := fun _ h => List.mem_cons_of_mem _ (List.mem_append_left _ (List.mem_append_left _ (List.mem_append_right _ h)))
  refine lv_aload_n hx hb dX10_meanPercentage_0 rfl (lv_at hl 0 rfl) ?_
  refine va_get (D := D) (ci := 10) (v := .ref (a4 0)) (C := RX10) (T := TX10) (N := 4) hx hb hts hinX10 hown hQ.1 hP 0 rfl rfl 0 (by decide) (hts (.fieldLink RX10 10 "HeatPumpPlant" "plant" "LHeatPumpPlant$Plant;") (List.mem_of_getElem? (i := 1) rfl)) (fun _ h9 => h9) rfl dX10_meanPercentage_1 ?_
  refine va_get (D := D) (ci := 5) (v := .ref (a4 14)) (C := RX5) (T := TX5) (N := 8) hx hb hts hinX5 hown hQ.1 hP 1 rfl rfl 5 (by decide) (hts (.fieldLink RX10 154 "HeatPumpPlant$Plant" "accounts" "LHeatPumpPlant$Accounts;") (List.mem_of_getElem? (i := 2) rfl)) (fun _ h9 => h9) rfl dX10_meanPercentage_4 ?_
  refine va_get (D := D) (ci := 0) (v := .long ((pA u).2.2.2.2.2.2.2.2.2.1)) (C := RX0) (T := TX0) (N := 11) hx hb hts hinX0 hown hQ.1 hP 15 rfl rfl 9 (by decide) (hts (.fieldLink RX10 206 "HeatPumpPlant$Accounts" "electricity" "J") (List.mem_of_getElem? (i := 3) rfl)) (fun _ h9 => h9) rfl dX10_meanPercentage_7 ?_
  refine lv_lstore_n (lv' := [(1, .long ((pA u).2.2.2.2.2.2.2.2.2.1)), (0, .ref b0)]) hx hb dX10_meanPercentage_10 rfl hl (by decide) rfl (fun ls hl => ?_)
  refine lv_lload_n hx hb dX10_meanPercentage_11 rfl (lv_at hl 0 rfl) ?_
  refine lv_lconst (v := (0 : Int64)) hx hb dX10_meanPercentage_12 rfl ?_
  refine w_lne (tgt := 21) hx hb dX10_meanPercentage_13 dX10_meanPercentage_14 (by decide) (fun c1 => ?_) (fun c1 => ?_)
  · have c1 : ¬ ((pA u).2.2.2.2.2.2.2.2.2.1 = (0 : Int64)) := c1
    refine lv_aload_n hx hb dX10_meanPercentage_21 rfl (lv_at hl 1 rfl) ?_
    refine va_get (D := D) (ci := 10) (v := .ref (a4 0)) (C := RX10) (T := TX10) (N := 4) hx hb hts hinX10 hown hQ.1 hP 0 rfl rfl 0 (by decide) (hts (.fieldLink RX10 10 "HeatPumpPlant" "plant" "LHeatPumpPlant$Plant;") (List.mem_of_getElem? (i := 1) rfl)) (fun _ h9 => h9) rfl dX10_meanPercentage_22 ?_
    refine va_get (D := D) (ci := 5) (v := .ref (a4 14)) (C := RX5) (T := TX5) (N := 8) hx hb hts hinX5 hown hQ.1 hP 1 rfl rfl 5 (by decide) (hts (.fieldLink RX10 154 "HeatPumpPlant$Plant" "accounts" "LHeatPumpPlant$Accounts;") (List.mem_of_getElem? (i := 2) rfl)) (fun _ h9 => h9) rfl dX10_meanPercentage_25 ?_
    refine va_get (D := D) (ci := 0) (v := .long ((pA u).2.2.2.2.1)) (C := RX0) (T := TX0) (N := 11) hx hb hts hinX0 hown hQ.1 hP 15 rfl rfl 4 (by decide) (hts (.fieldLink RX10 190 "HeatPumpPlant$Accounts" "produced" "J") (List.mem_of_getElem? (i := 4) rfl)) (fun _ h9 => h9) rfl dX10_meanPercentage_28 ?_
    refine lv_l2d hx hb dX10_meanPercentage_31 ?_
    refine lv_ldc2d hx hb hown (hts (.constantDouble RX10 212 (4636737291354636288)) (List.mem_of_getElem? (i := 5) rfl)) dX10_meanPercentage_32 ?_
    refine lv_dmul_any hd0 lw_bits hx hb dX10_meanPercentage_35 (fun r1 d1 hal1 hd1 => ?_)
    have hts := dr_words hts0 d1
    have hQ : kQ D cI cL cP (s.setDrawn d1) := hQ0
    refine lv_lload_n hx hb dX10_meanPercentage_36 rfl (lv_at hl 0 rfl) ?_
    refine lv_l2d hx hb dX10_meanPercentage_37 ?_
    refine lv_ddiv_any hd1 lw_bits hx hb dX10_meanPercentage_38 (fun r2 d2 hal2 hd2 => ?_)
    have hts := dr_words hts0 d2
    have hQ : kQ D cI cL cP (s.setDrawn d2) := hQ0
    refine W.endD hd2 ?_
    exact W.dret (v := r2) hx hb hr (fun t ht hW => ⟨⟨r2, (), rfl, (mPc_1 c1 hal1 hal2), ht⟩, hS.F ht⟩) hS.2.2 dX10_meanPercentage_39
  · have c1 : (pA u).2.2.2.2.2.2.2.2.2.1 = (0 : Int64) := c1
    refine lv_dconst0 hx hb dX10_meanPercentage_17 ?_
    refine lv_goto (tgt := 39) hx hb dX10_meanPercentage_18 (by decide) ?_
    refine W.endD hd0 ?_
    exact W.dret (v := FP.dconst0) hx hb hr (fun t ht hW => ⟨⟨FP.dconst0, (), rfl, (mPc_0 c1), ht⟩, hS.F ht⟩) hS.2.2 dX10_meanPercentage_39
