def F10_setting (u : PlS) (p1 : Int32) : Int32 := (F10_elementOr 17 (pS u) p1 (-9999 : Int32))
set_option maxHeartbeats 4000000 in
set_option maxRecDepth 100000 in
theorem m10_setting (l : Launch) (D : va_G) (cI cL cP : ClassId) (b0 : Nat) (b1 : Nat) (b2 : Nat) (b3 : Nat) (a4 : Nat → Nat) (u : PlS) (p1 : Int32) (H0 : Heap) : Met l yX10_setting wsX10_setting ({ frames := 1, cells := 0, slots := 0, locals := 22 }) (va_Pc [.ref b0, .int p1] (pR D cI cL cP H0 (wF [gX b0 (a4 0) b1 b2 b3, gO (a4 0) (a4 1) (a4 3) (a4 7) (a4 10) (a4 12) (a4 14) (a4 16) (pT u), gS cI (a4 1) (a4 2) (pS u), gWe cI (a4 3) (a4 4) (a4 5) (a4 6) (pW u), gK cI (a4 7) (a4 8) (a4 9) (pK u), gB cL (a4 10) (a4 11) (pB u), gP cI (a4 12) (a4 13) (pP u), gA cI (a4 14) (a4 15) (pA u), gC (a4 16) (pC u)]))) (va_Qi (fun (r : Int32) (_ : Unit) => r = F10_setting u p1) (qE H0) nF) 0 0 nF := by
  refine Met.ofW (cc := cX10_setting) (maxL := 2) (ret := (some .int)) (by decide) rfl ?_
  intro p e s m args below meth c s₁ B hml hv
  obtain ⟨rfl, rfl, hP, hQ⟩ := hv
  have hx := B.exec
  have hb := B.bytes
  have hr := B.returns
  have hts := atoms_spec (ws := wsX10_setting) B.pre
  have hown : s.vm.findClass RX10 = some m.cls := findClass_of_methodNamed B.named
  have hlocks := B.notSynchronized
  have hS : va_S nF s.heap s.heap [] := va_S.rf
  have hl := lv_entry ([.ref b0, .int p1]) (n := 2) (Nat.le_of_ble_eq_true rfl)
  rw [lg_entry_eq]
  generalize (lg_sl ([.ref b0, .int p1]) ++ List.replicate (2 - (lg_sl ([.ref b0, .int p1])).length) Slot.unset).toArray = ls at hl ⊢
  have hl : lv_has ls 2 [(0, .ref b0), (1, .int p1)] := hl
  have hinX5 : ∀ w ∈ wsX50, w ∈ wsX10_setting := fun _ h => List.mem_cons_of_mem _ (List.mem_append_left _ (List.mem_append_right _ h))
  have hinX7 : ∀ w ∈ wsX70, w ∈ wsX10_setting := fun _ h => List.mem_cons_of_mem _ (List.mem_append_right _ h)
  have hinX10 : ∀ w ∈ wsX100, w ∈ wsX10_setting := fun _ h => List.mem_cons_of_mem _ (List.mem_append_left _ (List.mem_append_left _ (List.mem_append_right _ h)))
  refine lv_aload_n hx hb dX10_setting_0 rfl (lv_at hl 0 rfl) ?_
  refine va_get (D := D) (ci := 10) (v := .ref (a4 0)) (C := RX10) (T := TX10) (N := 4) hx hb hts hinX10 hown hQ.1 hP 0 rfl rfl 0 (by decide) (hts (.fieldLink RX10 10 "HeatPumpPlant" "plant" "LHeatPumpPlant$Plant;") (List.mem_of_getElem? (i := 1) rfl)) (fun _ h9 => h9) rfl dX10_setting_1 ?_
  refine va_get (D := D) (ci := 5) (v := .ref (a4 1)) (C := RX5) (T := TX5) (N := 8) hx hb hts hinX5 hown hQ.1 hP 1 rfl rfl 0 (by decide) (hts (.fieldLink RX10 43 "HeatPumpPlant$Plant" "settings" "LHeatPumpPlant$Settings;") (List.mem_of_getElem? (i := 2) rfl)) (fun _ h9 => h9) rfl dX10_setting_4 ?_
  refine va_get (D := D) (ci := 7) (v := .ref (a4 2)) (C := RX7) (T := TX7) (N := 1) hx hb hts hinX7 hown hQ.1 hP 2 rfl rfl 0 (by decide) (hts (.fieldLink RX10 51 "HeatPumpPlant$Settings" "values" "[I") (List.mem_of_getElem? (i := 3) rfl)) (fun _ h9 => h9) rfl dX10_setting_7 ?_
  refine lv_iload_n hx hb dX10_setting_10 rfl (lv_at hl 1 rfl) ?_
  refine lv_sipush (v := (-9999 : Int32)) hx hb dX10_setting_11 (by decide) ?_
  have hPc : va_P D vwCl (wF [gI cI (a4 2) 17 (pS u)]) s.heap := hP.sub [3] rfl
  refine c_Ri (va_runS (As := [.ref (a4 2), .int p1, .int (-9999 : Int32)]) (rest := []) ⟨hx, hb, hml, hown, hts⟩ (m10_elementOr l D cI cL cP (a4 2) 17 (pS u) p1 (-9999 : Int32) (by decide) s.heap) (va_cwS 3 hts gX10_setting_X10_elementOr rfl rfl rfl (by decide +kernel) ⟨Nat.le_of_ble_eq_true rfl, Nat.le_of_ble_eq_true rfl⟩) (preR_S hQ hPc) rfl rfl hl.1 rfl (lv_room (Nat.le_of_ble_eq_true rfl)) dX10_setting_14 ⟨Nat.le_of_ble_eq_true rfl, Nat.le_of_ble_eq_true rfl⟩) hS (fun locs hS => ?_)
  exact W.iret (v := (F10_elementOr 17 (pS u) p1 (-9999 : Int32))) hx hb hr (fun t ht hW => ⟨⟨(F10_elementOr 17 (pS u) p1 (-9999 : Int32)), (), rfl, ((rfl).symm), ht⟩, hS.F ht⟩) hS.2.2 dX10_setting_17
def F10_outdoor (u : PlS) (p1 : Int32) : Int32 := (F10_elementOr 24 ((pW u).1) p1 (-9999 : Int32))
set_option maxHeartbeats 4000000 in
set_option maxRecDepth 100000 in
theorem m10_outdoor (l : Launch) (D : va_G) (cI cL cP : ClassId) (b0 : Nat) (b1 : Nat) (b2 : Nat) (b3 : Nat) (a4 : Nat → Nat) (u : PlS) (p1 : Int32) (H0 : Heap) : Met l yX10_outdoor wsX10_outdoor ({ frames := 1, cells := 0, slots := 0, locals := 22 }) (va_Pc [.ref b0, .int p1] (pR D cI cL cP H0 (wF [gX b0 (a4 0) b1 b2 b3, gO (a4 0) (a4 1) (a4 3) (a4 7) (a4 10) (a4 12) (a4 14) (a4 16) (pT u), gS cI (a4 1) (a4 2) (pS u), gWe cI (a4 3) (a4 4) (a4 5) (a4 6) (pW u), gK cI (a4 7) (a4 8) (a4 9) (pK u), gB cL (a4 10) (a4 11) (pB u), gP cI (a4 12) (a4 13) (pP u), gA cI (a4 14) (a4 15) (pA u), gC (a4 16) (pC u)]))) (va_Qi (fun (r : Int32) (_ : Unit) => r = F10_outdoor u p1) (qE H0) nF) 0 0 nF := by
  refine Met.ofW (cc := cX10_outdoor) (maxL := 2) (ret := (some .int)) (by decide) rfl ?_
  intro p e s m args below meth c s₁ B hml hv
  obtain ⟨rfl, rfl, hP, hQ⟩ := hv
  have hx := B.exec
  have hb := B.bytes
  have hr := B.returns
  have hts := atoms_spec (ws := wsX10_outdoor) B.pre
  have hown : s.vm.findClass RX10 = some m.cls := findClass_of_methodNamed B.named
  have hlocks := B.notSynchronized
  have hS : va_S nF s.heap s.heap [] := va_S.rf
  have hl := lv_entry ([.ref b0, .int p1]) (n := 2) (Nat.le_of_ble_eq_true rfl)
  rw [lg_entry_eq]
  generalize (lg_sl ([.ref b0, .int p1]) ++ List.replicate (2 - (lg_sl ([.ref b0, .int p1])).length) Slot.unset).toArray = ls at hl ⊢
  have hl : lv_has ls 2 [(0, .ref b0), (1, .int p1)] := hl
  have hinX5 : ∀ w ∈ wsX50, w ∈ wsX10_outdoor := fun _ h => List.mem_cons_of_mem _ (List.mem_append_left _ (List.mem_append_right _ h))
  have hinX8 : ∀ w ∈ wsX80, w ∈ wsX10_outdoor := fun _ h => List.mem_cons_of_mem _ (List.mem_append_right _ h)
  have hinX10 : ∀ w ∈ wsX100, w ∈ wsX10_outdoor := fun _ h => List.mem_cons_of_mem _ (List.mem_append_left _ (List.mem_append_left _ (List.mem_append_right _ h)))
  refine lv_aload_n hx hb dX10_outdoor_0 rfl (lv_at hl 0 rfl) ?_
  refine va_get (D := D) (ci := 10) (v := .ref (a4 0)) (C := RX10) (T := TX10) (N := 4) hx hb hts hinX10 hown hQ.1 hP 0 rfl rfl 0 (by decide) (hts (.fieldLink RX10 10 "HeatPumpPlant" "plant" "LHeatPumpPlant$Plant;") (List.mem_of_getElem? (i := 1) rfl)) (fun _ h9 => h9) rfl dX10_outdoor_1 ?_
  refine va_get (D := D) (ci := 5) (v := .ref (a4 3)) (C := RX5) (T := TX5) (N := 8) hx hb hts hinX5 hown hQ.1 hP 1 rfl rfl 1 (by decide) (hts (.fieldLink RX10 68 "HeatPumpPlant$Plant" "weather" "LHeatPumpPlant$Weather;") (List.mem_of_getElem? (i := 2) rfl)) (fun _ h9 => h9) rfl dX10_outdoor_4 ?_
  refine va_get (D := D) (ci := 8) (v := .ref (a4 4)) (C := RX8) (T := TX8) (N := 3) hx hb hts hinX8 hown hQ.1 hP 4 rfl rfl 0 (by decide) (hts (.fieldLink RX10 72 "HeatPumpPlant$Weather" "outdoors" "[I") (List.mem_of_getElem? (i := 3) rfl)) (fun _ h9 => h9) rfl dX10_outdoor_7 ?_
  refine lv_iload_n hx hb dX10_outdoor_10 rfl (lv_at hl 1 rfl) ?_
  refine lv_sipush (v := (-9999 : Int32)) hx hb dX10_outdoor_11 (by decide) ?_
  have hPc : va_P D vwCl (wF [gI cI (a4 4) 24 ((pW u).1)]) s.heap := hP.sub [5] rfl
  refine c_Ri (va_runS (As := [.ref (a4 4), .int p1, .int (-9999 : Int32)]) (rest := []) ⟨hx, hb, hml, hown, hts⟩ (m10_elementOr l D cI cL cP (a4 4) 24 ((pW u).1) p1 (-9999 : Int32) (by decide) s.heap) (va_cwS 3 hts gX10_outdoor_X10_elementOr rfl rfl rfl (by decide +kernel) ⟨Nat.le_of_ble_eq_true rfl, Nat.le_of_ble_eq_true rfl⟩) (preR_S hQ hPc) rfl rfl hl.1 rfl (lv_room (Nat.le_of_ble_eq_true rfl)) dX10_outdoor_14 ⟨Nat.le_of_ble_eq_true rfl, Nat.le_of_ble_eq_true rfl⟩) hS (fun locs hS => ?_)
  exact W.iret (v := (F10_elementOr 24 ((pW u).1) p1 (-9999 : Int32))) hx hb hr (fun t ht hW => ⟨⟨(F10_elementOr 24 ((pW u).1) p1 (-9999 : Int32)), (), rfl, ((rfl).symm), ht⟩, hS.F ht⟩) hS.2.2 dX10_outdoor_17
def F10_tariff (u : PlS) (p1 : Int32) : Int32 := (F10_elementOr 24 ((pW u).2.1) p1 (-9999 : Int32))
set_option maxHeartbeats 4000000 in
set_option maxRecDepth 100000 in
theorem m10_tariff (l : Launch) (D : va_G) (cI cL cP : ClassId) (b0 : Nat) (b1 : Nat) (b2 : Nat) (b3 : Nat) (a4 : Nat → Nat) (u : PlS) (p1 : Int32) (H0 : Heap) : Met l yX10_tariff wsX10_tariff ({ frames := 1, cells := 0, slots := 0, locals := 22 }) (va_Pc [.ref b0, .int p1] (pR D cI cL cP H0 (wF [gX b0 (a4 0) b1 b2 b3, gO (a4 0) (a4 1) (a4 3) (a4 7) (a4 10) (a4 12) (a4 14) (a4 16) (pT u), gS cI (a4 1) (a4 2) (pS u), gWe cI (a4 3) (a4 4) (a4 5) (a4 6) (pW u), gK cI (a4 7) (a4 8) (a4 9) (pK u), gB cL (a4 10) (a4 11) (pB u), gP cI (a4 12) (a4 13) (pP u), gA cI (a4 14) (a4 15) (pA u), gC (a4 16) (pC u)]))) (va_Qi (fun (r : Int32) (_ : Unit) => r = F10_tariff u p1) (qE H0) nF) 0 0 nF := by
  refine Met.ofW (cc := cX10_tariff) (maxL := 2) (ret := (some .int)) (by decide) rfl ?_
  intro p e s m args below meth c s₁ B hml hv
  obtain ⟨rfl, rfl, hP, hQ⟩ := hv
  have hx := B.exec
  have hb := B.bytes
  have hr := B.returns
  have hts := atoms_spec (ws := wsX10_tariff) B.pre
  have hown : s.vm.findClass RX10 = some m.cls := findClass_of_methodNamed B.named
  have hlocks := B.notSynchronized
  have hS : va_S nF s.heap s.heap [] := va_S.rf
  have hl := lv_entry ([.ref b0, .int p1]) (n := 2) (Nat.le_of_ble_eq_true rfl)
  rw [lg_entry_eq]
  generalize (lg_sl ([.ref b0, .int p1]) ++ List.replicate (2 - (lg_sl ([.ref b0, .int p1])).length) Slot.unset).toArray = ls at hl ⊢
  have hl : lv_has ls 2 [(0, .ref b0), (1, .int p1)] := hl
  have hinX5 : ∀ w ∈ wsX50, w ∈ wsX10_tariff := fun _ h => List.mem_cons_of_mem _ (List.mem_append_left _ (List.mem_append_right _ h))
  have hinX8 : ∀ w ∈ wsX80, w ∈ wsX10_tariff := fun _ h => List.mem_cons_of_mem _ (List.mem_append_right _ h)
  have hinX10 : ∀ w ∈ wsX100, w ∈ wsX10_tariff := fun _ h => List.mem_cons_of_mem _ (List.mem_append_left _ (List.mem_append_left _ (List.mem_append_right _ h)))
  refine lv_aload_n hx hb dX10_tariff_0 rfl (lv_at hl 0 rfl) ?_
  refine va_get (D := D) (ci := 10) (v := .ref (a4 0)) (C := RX10) (T := TX10) (N := 4) hx hb hts hinX10 hown hQ.1 hP 0 rfl rfl 0 (by decide) (hts (.fieldLink RX10 10 "HeatPumpPlant" "plant" "LHeatPumpPlant$Plant;") (List.mem_of_getElem? (i := 1) rfl)) (fun _ h9 => h9) rfl dX10_tariff_1 ?_
  refine va_get (D := D) (ci := 5) (v := .ref (a4 3)) (C := RX5) (T := TX5) (N := 8) hx hb hts hinX5 hown hQ.1 hP 1 rfl rfl 1 (by decide) (hts (.fieldLink RX10 68 "HeatPumpPlant$Plant" "weather" "LHeatPumpPlant$Weather;") (List.mem_of_getElem? (i := 2) rfl)) (fun _ h9 => h9) rfl dX10_tariff_4 ?_
  refine va_get (D := D) (ci := 8) (v := .ref (a4 5)) (C := RX8) (T := TX8) (N := 3) hx hb hts hinX8 hown hQ.1 hP 4 rfl rfl 1 (by decide) (hts (.fieldLink RX10 82 "HeatPumpPlant$Weather" "tariffs" "[I") (List.mem_of_getElem? (i := 3) rfl)) (fun _ h9 => h9) rfl dX10_tariff_7 ?_
  refine lv_iload_n hx hb dX10_tariff_10 rfl (lv_at hl 1 rfl) ?_
  refine lv_sipush (v := (-9999 : Int32)) hx hb dX10_tariff_11 (by decide) ?_
  have hPc : va_P D vwCl (wF [gI cI (a4 5) 24 ((pW u).2.1)]) s.heap := hP.sub [6] rfl
  refine c_Ri (va_runS (As := [.ref (a4 5), .int p1, .int (-9999 : Int32)]) (rest := []) ⟨hx, hb, hml, hown, hts⟩ (m10_elementOr l D cI cL cP (a4 5) 24 ((pW u).2.1) p1 (-9999 : Int32) (by decide) s.heap) (va_cwS 3 hts gX10_tariff_X10_elementOr rfl rfl rfl (by decide +kernel) ⟨Nat.le_of_ble_eq_true rfl, Nat.le_of_ble_eq_true rfl⟩) (preR_S hQ hPc) rfl rfl hl.1 rfl (lv_room (Nat.le_of_ble_eq_true rfl)) dX10_tariff_14 ⟨Nat.le_of_ble_eq_true rfl, Nat.le_of_ble_eq_true rfl⟩) hS (fun locs hS => ?_)
  exact W.iret (v := (F10_elementOr 24 ((pW u).2.1) p1 (-9999 : Int32))) hx hb hr (fun t ht hW => ⟨⟨(F10_elementOr 24 ((pW u).2.1) p1 (-9999 : Int32)), (), rfl, ((rfl).symm), ht⟩, hS.F ht⟩) hS.2.2 dX10_tariff_17
def F10_demand (u : PlS) (p1 : Int32) : Int32 := (if (F8_isHour p1) = true then (F5_demandIn u p1) else (-9999 : Int32))
set_option maxHeartbeats 4000000 in
set_option maxRecDepth 100000 in
theorem m10_demand (l : Launch) (D : va_G) (cI cL cP : ClassId) (b0 : Nat) (b1 : Nat) (b2 : Nat) (b3 : Nat) (a4 : Nat → Nat) (u : PlS) (p1 : Int32) (H0 : Heap) : Met l yX10_demand wsX10_demand ({ frames := 3, cells := 0, slots := 0, locals := 65 }) (va_Pc [.ref b0, .int p1] (pR D cI cL cP H0 (wF [gX b0 (a4 0) b1 b2 b3, gO (a4 0) (a4 1) (a4 3) (a4 7) (a4 10) (a4 12) (a4 14) (a4 16) (pT u), gS cI (a4 1) (a4 2) (pS u), gWe cI (a4 3) (a4 4) (a4 5) (a4 6) (pW u), gK cI (a4 7) (a4 8) (a4 9) (pK u), gB cL (a4 10) (a4 11) (pB u), gP cI (a4 12) (a4 13) (pP u), gA cI (a4 14) (a4 15) (pA u), gC (a4 16) (pC u)]))) (va_Qi (fun (r : Int32) (_ : Unit) => r = F10_demand u p1) (qE H0) nF) 0 0 nF := by
  refine Met.ofW (cc := cX10_demand) (maxL := 2) (ret := (some .int)) (by decide) rfl ?_
  intro p e s m args below meth c s₁ B hml hv
  obtain ⟨rfl, rfl, hP, hQ⟩ := hv
  have hx := B.exec
  have hb := B.bytes
  have hr := B.returns
  have hts := atoms_spec (ws := wsX10_demand) B.pre
  have hown : s.vm.findClass RX10 = some m.cls := findClass_of_methodNamed B.named
  have hlocks := B.notSynchronized
  have hS : va_S nF s.heap s.heap [] := va_S.rf
  have hl := lv_entry ([.ref b0, .int p1]) (n := 2) (Nat.le_of_ble_eq_true rfl)
  rw [lg_entry_eq]
  generalize (lg_sl ([.ref b0, .int p1]) ++ List.replicate (2 - (lg_sl ([.ref b0, .int p1])).length) Slot.unset).toArray = ls at hl ⊢
  have hl : lv_has ls 2 [(0, .ref b0), (1, .int p1)] := hl
  have hinX5 : ∀ w ∈ wsX50, w ∈ wsX10_demand := fun _ h => List.mem_cons_of_mem _ (List.mem_append_left _ (List.mem_append_left _ (List.mem_append_right _ h)))
  have hinX7 : ∀ w ∈ wsX70, w ∈ wsX10_demand := fun _ h => List.mem_cons_of_mem _ (List.mem_append_right _ h)
  have hinX8 : ∀ w ∈ wsX80, w ∈ wsX10_demand := fun _ h => List.mem_cons_of_mem _ (List.mem_append_left _ (List.mem_append_right _ h))
  have hinX10 : ∀ w ∈ wsX100, w ∈ wsX10_demand := fun _ h => List.mem_cons_of_mem _ (List.mem_append_left _ (List.mem_append_left _ (List.mem_append_left _ (List.mem_append_right _ h))))
  refine lv_iload_n hx hb dX10_demand_0 rfl (lv_at hl 1 rfl) ?_
  have hPc : va_P D vwCl (wF []) s.heap := hP.sub [] rfl
  refine c_Ri (va_runS (As := [.int p1]) (rest := []) ⟨hx, hb, hml, hown, hts⟩ (m8_isHour l D cI cL cP p1 s.heap) (va_cwS 1 hts gX10_demand_X8_isHour rfl rfl rfl (by decide +kernel) ⟨Nat.le_of_ble_eq_true rfl, Nat.le_of_ble_eq_true rfl⟩) (preR_S hQ hPc) rfl rfl hl.1 rfl (lv_room (Nat.le_of_ble_eq_true rfl)) dX10_demand_1 ⟨Nat.le_of_ble_eq_true rfl, Nat.le_of_ble_eq_true rfl⟩) hS (fun locs hS => ?_)
  refine lv_if_eq (tgt := 18) hx hb dX10_demand_4 (by decide) (fun c1 => ?_) (fun c1 => ?_)
  · have c1 : ¬ ((F8_isHour p1) = true) := bI_0.mp c1
    refine lv_sipush (v := (-9999 : Int32)) hx hb dX10_demand_18 (by decide) ?_
    exact W.iret (v := (-9999 : Int32)) hx hb hr (fun t ht hW => ⟨⟨(-9999 : Int32), (), rfl, ((Eq.trans (if_neg c1) (rfl)).symm), ht⟩, hS.F ht⟩) hS.2.2 dX10_demand_21
  · have c1 : (F8_isHour p1) = true := bI_1.mp c1
    refine lv_aload_n hx hb dX10_demand_7 rfl (lv_at hl 0 rfl) ?_
    refine va_get (D := D) (ci := 10) (v := .ref (a4 0)) (C := RX10) (T := TX10) (N := 4) hx hb hts hinX10 hown hQ.1 hP 0 rfl rfl 0 (by decide) (hts (.fieldLink RX10 10 "HeatPumpPlant" "plant" "LHeatPumpPlant$Plant;") (List.mem_of_getElem? (i := 1) rfl)) (fun _ h9 => h9) rfl dX10_demand_8 ?_
    refine lv_iload_n hx hb dX10_demand_11 rfl (lv_at hl 1 rfl) ?_
    have hPc : va_P D vwCl (wF [gO (a4 0) (a4 1) (a4 3) (a4 7) (a4 10) (a4 12) (a4 14) (a4 16) (pT u), gS cI (a4 1) (a4 2) (pS u), gWe cI (a4 3) (a4 4) (a4 5) (a4 6) (pW u), gK cI (a4 7) (a4 8) (a4 9) (pK u), gB cL (a4 10) (a4 11) (pB u), gP cI (a4 12) (a4 13) (pP u), gA cI (a4 14) (a4 15) (pA u), gC (a4 16) (pC u)]) s.heap := hP.sub [1, 2, 3, 4, 5, 6, 7, 8, 9, 10, 11, 12, 13, 14, 15, 16, 17] rfl
    refine c_Ri (va_runV (As := [.int p1]) (rest := []) ⟨hx, hb, hml, hown, hts⟩ (m5_demandIn l D cI cL cP a4 u p1 s.heap) (cwV 1 hts gX10_demand_X5_demandIn rfl rfl rfl (by decide +kernel) ⟨Nat.le_of_ble_eq_true rfl, Nat.le_of_ble_eq_true rfl⟩) (preR_V (q := (RX5, TX5, 8)) (q0 := 0) hQ hPc rfl rfl) rfl rfl hl.1 rfl (lv_room (Nat.le_of_ble_eq_true rfl)) dX10_demand_12 ⟨Nat.le_of_ble_eq_true rfl, Nat.le_of_ble_eq_true rfl⟩) hS (fun locs hS => ?_)
    refine lv_goto (tgt := 21) hx hb dX10_demand_15 (by decide) ?_
    exact W.iret (v := (F5_demandIn u p1)) hx hb hr (fun t ht hW => ⟨⟨(F5_demandIn u p1), (), rfl, ((Eq.trans (if_pos c1) (rfl)).symm), ht⟩, hS.F ht⟩) hS.2.2 dX10_demand_21
def F10_supply (u : PlS) (p1 : Int32) : Int32 := (if (F8_isOutdoor p1) = true then (F3_supplyAt (pK u) p1) else (-9999 : Int32))
set_option maxHeartbeats 4000000 in
set_option maxRecDepth 100000 in
theorem m10_supply (l : Launch) (D : va_G) (cI cL cP : ClassId) (b0 : Nat) (b1 : Nat) (b2 : Nat) (b3 : Nat) (a4 : Nat → Nat) (u : PlS) (p1 : Int32) (H0 : Heap) : Met l yX10_supply wsX10_supply ({ frames := 2, cells := 0, slots := 0, locals := 51 }) (va_Pc [.ref b0, .int p1] (pR D cI cL cP H0 (wF [gX b0 (a4 0) b1 b2 b3, gO (a4 0) (a4 1) (a4 3) (a4 7) (a4 10) (a4 12) (a4 14) (a4 16) (pT u), gS cI (a4 1) (a4 2) (pS u), gWe cI (a4 3) (a4 4) (a4 5) (a4 6) (pW u), gK cI (a4 7) (a4 8) (a4 9) (pK u), gB cL (a4 10) (a4 11) (pB u), gP cI (a4 12) (a4 13) (pP u), gA cI (a4 14) (a4 15) (pA u), gC (a4 16) (pC u)]))) (va_Qi (fun (r : Int32) (_ : Unit) => r = F10_supply u p1) (qE H0) nF) 0 0 nF := by
  refine Met.ofW (cc := cX10_supply) (maxL := 2) (ret := (some .int)) (by decide) rfl ?_
  intro p e s m args below meth c s₁ B hml hv
  obtain ⟨rfl, rfl, hP, hQ⟩ := hv
  have hx := B.exec
  have hb := B.bytes
  have hr := B.returns
  have hts := atoms_spec (ws := wsX10_supply) B.pre
  have hown : s.vm.findClass RX10 = some m.cls := findClass_of_methodNamed B.named
  have hlocks := B.notSynchronized
  have hS : va_S nF s.heap s.heap [] := va_S.rf
  have hl := lv_entry ([.ref b0, .int p1]) (n := 2) (Nat.le_of_ble_eq_true rfl)
  rw [lg_entry_eq]
  generalize (lg_sl ([.ref b0, .int p1]) ++ List.replicate (2 - (lg_sl ([.ref b0, .int p1])).length) Slot.unset).toArray = ls at hl ⊢
  have hl : lv_has ls 2 [(0, .ref b0), (1, .int p1)] := hl
  have hinX3 : ∀ w ∈ wsX30, w ∈ wsX10_supply := fun _ h => List.mem_cons_of_mem _ (List.mem_append_right _ h)
  have hinX5 : ∀ w ∈ wsX50, w ∈ wsX10_supply := fun _ h => List.mem_cons_of_mem _ (List.mem_append_left _ (List.mem_append_right _ h))
  have hinX10 : ∀ w ∈ wsX100, w ∈ wsX10_supply := fun _ h => List.mem_cons_of_mem _ (List.mem_append_left _ (List.mem_append_left _ (List.mem_append_right _ h)))
  refine lv_iload_n hx hb dX10_supply_0 rfl (lv_at hl 1 rfl) ?_
  have hPc : va_P D vwCl (wF []) s.heap := hP.sub [] rfl
  refine c_Ri (va_runS (As := [.int p1]) (rest := []) ⟨hx, hb, hml, hown, hts⟩ (m8_isOutdoor l D cI cL cP p1 s.heap) (va_cwS 1 hts gX10_supply_X8_isOutdoor rfl rfl rfl (by decide +kernel) ⟨Nat.le_of_ble_eq_true rfl, Nat.le_of_ble_eq_true rfl⟩) (preR_S hQ hPc) rfl rfl hl.1 rfl (lv_room (Nat.le_of_ble_eq_true rfl)) dX10_supply_1 ⟨Nat.le_of_ble_eq_true rfl, Nat.le_of_ble_eq_true rfl⟩) hS (fun locs hS => ?_)
  refine lv_if_eq (tgt := 21) hx hb dX10_supply_4 (by decide) (fun c1 => ?_) (fun c1 => ?_)
  · have c1 : ¬ ((F8_isOutdoor p1) = true) := bI_0.mp c1
    refine lv_sipush (v := (-9999 : Int32)) hx hb dX10_supply_21 (by decide) ?_
    exact W.iret (v := (-9999 : Int32)) hx hb hr (fun t ht hW => ⟨⟨(-9999 : Int32), (), rfl, ((Eq.trans (if_neg c1) (rfl)).symm), ht⟩, hS.F ht⟩) hS.2.2 dX10_supply_24
  · have c1 : (F8_isOutdoor p1) = true := bI_1.mp c1
    refine lv_aload_n hx hb dX10_supply_7 rfl (lv_at hl 0 rfl) ?_
    refine va_get (D := D) (ci := 10) (v := .ref (a4 0)) (C := RX10) (T := TX10) (N := 4) hx hb hts hinX10 hown hQ.1 hP 0 rfl rfl 0 (by decide) (hts (.fieldLink RX10 10 "HeatPumpPlant" "plant" "LHeatPumpPlant$Plant;") (List.mem_of_getElem? (i := 1) rfl)) (fun _ h9 => h9) rfl dX10_supply_8 ?_
    refine va_get (D := D) (ci := 5) (v := .ref (a4 7)) (C := RX5) (T := TX5) (N := 8) hx hb hts hinX5 hown hQ.1 hP 1 rfl rfl 2 (by decide) (hts (.fieldLink RX10 100 "HeatPumpPlant$Plant" "curve" "LHeatPumpPlant$Curve;") (List.mem_of_getElem? (i := 2) rfl)) (fun _ h9 => h9) rfl dX10_supply_11 ?_
    refine lv_iload_n hx hb dX10_supply_14 rfl (lv_at hl 1 rfl) ?_
    have hPc : va_P D vwCl (wF [gK cI (a4 7) (a4 8) (a4 9) (pK u)]) s.heap := hP.sub [8, 9, 10] rfl
    refine c_Ri (va_runV (As := [.int p1]) (rest := []) ⟨hx, hb, hml, hown, hts⟩ (m3_supplyAt l D cI cL cP (a4 7) (a4 8) (a4 9) (pK u) p1 s.heap) (cwV 1 hts gX10_supply_X3_supplyAt rfl rfl rfl (by decide +kernel) ⟨Nat.le_of_ble_eq_true rfl, Nat.le_of_ble_eq_true rfl⟩) (preR_V (q := (RX3, TX3, 3)) (q0 := 0) hQ hPc rfl rfl) rfl rfl hl.1 rfl (lv_room (Nat.le_of_ble_eq_true rfl)) dX10_supply_15 ⟨Nat.le_of_ble_eq_true rfl, Nat.le_of_ble_eq_true rfl⟩) hS (fun locs hS => ?_)
    refine lv_goto (tgt := 24) hx hb dX10_supply_18 (by decide) ?_
    exact W.iret (v := (F3_supplyAt (pK u) p1)) hx hb hr (fun t ht hW => ⟨⟨(F3_supplyAt (pK u) p1), (), rfl, ((Eq.trans (if_pos c1) (rfl)).symm), ht⟩, hS.F ht⟩) hS.2.2 dX10_supply_24
def F10_target (u : PlS) (p1 : Int32) : Int32 := (if (F8_isHour p1) = true then (F5_targetIn u p1) else (-9999 : Int32))
set_option maxHeartbeats 4000000 in
set_option maxRecDepth 100000 in
theorem m10_target (l : Launch) (D : va_G) (cI cL cP : ClassId) (b0 : Nat) (b1 : Nat) (b2 : Nat) (b3 : Nat) (a4 : Nat → Nat) (u : PlS) (p1 : Int32) (H0 : Heap) : Met l yX10_target wsX10_target ({ frames := 3, cells := 0, slots := 0, locals := 74 }) (va_Pc [.ref b0, .int p1] (pR D cI cL cP H0 (wF [gX b0 (a4 0) b1 b2 b3, gO (a4 0) (a4 1) (a4 3) (a4 7) (a4 10) (a4 12) (a4 14) (a4 16) (pT u), gS cI (a4 1) (a4 2) (pS u), gWe cI (a4 3) (a4 4) (a4 5) (a4 6) (pW u), gK cI (a4 7) (a4 8) (a4 9) (pK u), gB cL (a4 10) (a4 11) (pB u), gP cI (a4 12) (a4 13) (pP u), gA cI (a4 14) (a4 15) (pA u), gC (a4 16) (pC u)]))) (va_Qi (fun (r : Int32) (_ : Unit) => r = F10_target u p1) (qE H0) nF) 0 0 nF := by
  refine Met.ofW (cc := cX10_target) (maxL := 2) (ret := (some .int)) (by decide) rfl ?_
  intro p e s m args below meth c s₁ B hml hv
  obtain ⟨rfl, rfl, hP, hQ⟩ := hv
  have hx := B.exec
  have hb := B.bytes
  have hr := B.returns
  have hts := atoms_spec (ws := wsX10_target) B.pre
  have hown : s.vm.findClass RX10 = some m.cls := findClass_of_methodNamed B.named
  have hlocks := B.notSynchronized
  have hS : va_S nF s.heap s.heap [] := va_S.rf
  have hl := lv_entry ([.ref b0, .int p1]) (n := 2) (Nat.le_of_ble_eq_true rfl)
  rw [lg_entry_eq]
  generalize (lg_sl ([.ref b0, .int p1]) ++ List.replicate (2 - (lg_sl ([.ref b0, .int p1])).length) Slot.unset).toArray = ls at hl ⊢
  have hl : lv_has ls 2 [(0, .ref b0), (1, .int p1)] := hl
  have hinX3 : ∀ w ∈ wsX30, w ∈ wsX10_target := fun _ h => List.mem_cons_of_mem _ (List.mem_append_left _ (List.mem_append_right _ h))
  have hinX5 : ∀ w ∈ wsX50, w ∈ wsX10_target := fun _ h => List.mem_cons_of_mem _ (List.mem_append_left _ (List.mem_append_left _ (List.mem_append_left _ (List.mem_append_right _ h))))
  have hinX7 : ∀ w ∈ wsX70, w ∈ wsX10_target := fun _ h => List.mem_cons_of_mem _ (List.mem_append_right _ h)
  have hinX8 : ∀ w ∈ wsX80, w ∈ wsX10_target := fun _ h => List.mem_cons_of_mem _ (List.mem_append_left _ (List.mem_append_left _ (List.mem_append_right _ h)))
  have hinX10 : ∀ w ∈ wsX100, w ∈ wsX10_target := fun _ h => List.mem_cons_of_mem _ (List.mem_append_left _ (List.mem_append_left _ (List.mem_append_left _ (List.mem_append_left _ (List.mem_append_right _ h)))))
  refine lv_iload_n hx hb dX10_target_0 rfl (lv_at hl 1 rfl) ?_
  have hPc : va_P D vwCl (wF []) s.heap := hP.sub [] rfl
  refine c_Ri (va_runS (As := [.int p1]) (rest := []) ⟨hx, hb, hml, hown, hts⟩ (m8_isHour l D cI cL cP p1 s.heap) (va_cwS 1 hts gX10_target_X8_isHour rfl rfl rfl (by decide +kernel) ⟨Nat.le_of_ble_eq_true rfl, Nat.le_of_ble_eq_true rfl⟩) (preR_S hQ hPc) rfl rfl hl.1 rfl (lv_room (Nat.le_of_ble_eq_true rfl)) dX10_target_1 ⟨Nat.le_of_ble_eq_true rfl, Nat.le_of_ble_eq_true rfl⟩) hS (fun locs hS => ?_)
  refine lv_if_eq (tgt := 18) hx hb dX10_target_4 (by decide) (fun c1 => ?_) (fun c1 => ?_)
  · have c1 : ¬ ((F8_isHour p1) = true) := bI_0.mp c1
    refine lv_sipush (v := (-9999 : Int32)) hx hb dX10_target_18 (by decide) ?_
    exact W.iret (v := (-9999 : Int32)) hx hb hr (fun t ht hW => ⟨⟨(-9999 : Int32), (), rfl, ((Eq.trans (if_neg c1) (rfl)).symm), ht⟩, hS.F ht⟩) hS.2.2 dX10_target_21
  · have c1 : (F8_isHour p1) = true := bI_1.mp c1
    refine lv_aload_n hx hb dX10_target_7 rfl (lv_at hl 0 rfl) ?_
    refine va_get (D := D) (ci := 10) (v := .ref (a4 0)) (C := RX10) (T := TX10) (N := 4) hx hb hts hinX10 hown hQ.1 hP 0 rfl rfl 0 (by decide) (hts (.fieldLink RX10 10 "HeatPumpPlant" "plant" "LHeatPumpPlant$Plant;") (List.mem_of_getElem? (i := 1) rfl)) (fun _ h9 => h9) rfl dX10_target_8 ?_
    refine lv_iload_n hx hb dX10_target_11 rfl (lv_at hl 1 rfl) ?_
    have hPc : va_P D vwCl (wF [gO (a4 0) (a4 1) (a4 3) (a4 7) (a4 10) (a4 12) (a4 14) (a4 16) (pT u), gS cI (a4 1) (a4 2) (pS u), gWe cI (a4 3) (a4 4) (a4 5) (a4 6) (pW u), gK cI (a4 7) (a4 8) (a4 9) (pK u), gB cL (a4 10) (a4 11) (pB u), gP cI (a4 12) (a4 13) (pP u), gA cI (a4 14) (a4 15) (pA u), gC (a4 16) (pC u)]) s.heap := hP.sub [1, 2, 3, 4, 5, 6, 7, 8, 9, 10, 11, 12, 13, 14, 15, 16, 17] rfl
    refine c_Ri (va_runV (As := [.int p1]) (rest := []) ⟨hx, hb, hml, hown, hts⟩ (m5_targetIn l D cI cL cP a4 u p1 s.heap) (cwV 1 hts gX10_target_X5_targetIn rfl rfl rfl (by decide +kernel) ⟨Nat.le_of_ble_eq_true rfl, Nat.le_of_ble_eq_true rfl⟩) (preR_V (q := (RX5, TX5, 8)) (q0 := 0) hQ hPc rfl rfl) rfl rfl hl.1 rfl (lv_room (Nat.le_of_ble_eq_true rfl)) dX10_target_12 ⟨Nat.le_of_ble_eq_true rfl, Nat.le_of_ble_eq_true rfl⟩) hS (fun locs hS => ?_)
    refine lv_goto (tgt := 21) hx hb dX10_target_15 (by decide) ?_
    exact W.iret (v := (F5_targetIn u p1)) hx hb hr (fun t ht hW => ⟨⟨(F5_targetIn u p1), (), rfl, ((Eq.trans (if_pos c1) (rfl)).symm), ht⟩, hS.F ht⟩) hS.2.2 dX10_target_21
def F10_temperature (u : PlS) (p1 : Int32) : Int32 := ((F1_temperatureOf (pB u) p1).toInt32)
set_option maxHeartbeats 4000000 in
set_option maxRecDepth 100000 in
theorem m10_temperature (l : Launch) (D : va_G) (cI cL cP : ClassId) (b0 : Nat) (b1 : Nat) (b2 : Nat) (b3 : Nat) (a4 : Nat → Nat) (u : PlS) (p1 : Int32) (H0 : Heap) : Met l yX10_temperature wsX10_temperature ({ frames := 2, cells := 0, slots := 0, locals := 46 }) (va_Pc [.ref b0, .int p1] (pR D cI cL cP H0 (wF [gX b0 (a4 0) b1 b2 b3, gO (a4 0) (a4 1) (a4 3) (a4 7) (a4 10) (a4 12) (a4 14) (a4 16) (pT u), gS cI (a4 1) (a4 2) (pS u), gWe cI (a4 3) (a4 4) (a4 5) (a4 6) (pW u), gK cI (a4 7) (a4 8) (a4 9) (pK u), gB cL (a4 10) (a4 11) (pB u), gP cI (a4 12) (a4 13) (pP u), gA cI (a4 14) (a4 15) (pA u), gC (a4 16) (pC u)]))) (va_Qi (fun (r : Int32) (_ : Unit) => r = F10_temperature u p1) (qE H0) nF) 0 0 nF := by
  refine Met.ofW (cc := cX10_temperature) (maxL := 2) (ret := (some .int)) (by decide) rfl ?_
  intro p e s m args below meth c s₁ B hml hv
  obtain ⟨rfl, rfl, hP, hQ⟩ := hv
  have hx := B.exec
  have hb := B.bytes
  have hr := B.returns
  have hts := atoms_spec (ws := wsX10_temperature) B.pre
  have hown : s.vm.findClass RX10 = some m.cls := findClass_of_methodNamed B.named
  have hlocks := B.notSynchronized
  have hS : va_S nF s.heap s.heap [] := va_S.rf
  have hl := lv_entry ([.ref b0, .int p1]) (n := 2) (Nat.le_of_ble_eq_true rfl)
  rw [lg_entry_eq]
  generalize (lg_sl ([.ref b0, .int p1]) ++ List.replicate (2 - (lg_sl ([.ref b0, .int p1])).length) Slot.unset).toArray = ls at hl ⊢
  have hl : lv_has ls 2 [(0, .ref b0), (1, .int p1)] := hl
  have hinX1 : ∀ w ∈ wsX10, w ∈ wsX10_temperature := fun _ h => List.mem_cons_of_mem _ (List.mem_append_right _ h)
  have hinX5 : ∀ w ∈ wsX50, w ∈ wsX10_temperature := fun _ h => List.mem_cons_of_mem _ (List.mem_append_left _ (List.mem_append_right _ h))
  have hinX10 : ∀ w ∈ wsX100, w ∈ wsX10_temperature := fun _ h => List.mem_cons_of_mem _ (List.mem_append_left _ (List.mem_append_left _ (List.mem_append_right _ h)))
  refine lv_aload_n hx hb dX10_temperature_0 rfl (lv_at hl 0 rfl) ?_
  refine va_get (D := D) (ci := 10) (v := .ref (a4 0)) (C := RX10) (T := TX10) (N := 4) hx hb hts hinX10 hown hQ.1 hP 0 rfl rfl 0 (by decide) (hts (.fieldLink RX10 10 "HeatPumpPlant" "plant" "LHeatPumpPlant$Plant;") (List.mem_of_getElem? (i := 1) rfl)) (fun _ h9 => h9) rfl dX10_temperature_1 ?_
  refine va_get (D := D) (ci := 5) (v := .ref (a4 10)) (C := RX5) (T := TX5) (N := 8) hx hb hts hinX5 hown hQ.1 hP 1 rfl rfl 3 (by decide) (hts (.fieldLink RX10 135 "HeatPumpPlant$Plant" "buffer" "LHeatPumpPlant$Buffer;") (List.mem_of_getElem? (i := 2) rfl)) (fun _ h9 => h9) rfl dX10_temperature_4 ?_
  refine lv_iload_n hx hb dX10_temperature_7 rfl (lv_at hl 1 rfl) ?_
  have hPc : va_P D vwCl (wF [gB cL (a4 10) (a4 11) (pB u)]) s.heap := hP.sub [11, 12] rfl
  refine c_Rl (va_runV (As := [.int p1]) (rest := []) ⟨hx, hb, hml, hown, hts⟩ (m1_temperatureOf l D cI cL cP (a4 10) (a4 11) (pB u) p1 s.heap) (cwV 1 hts gX10_temperature_X1_temperatureOf rfl rfl rfl (by decide +kernel) ⟨Nat.le_of_ble_eq_true rfl, Nat.le_of_ble_eq_true rfl⟩) (preR_V (q := (RX1, TX1, 2)) (q0 := 0) hQ hPc rfl rfl) rfl rfl hl.1 rfl (lv_room (Nat.le_of_ble_eq_true rfl)) dX10_temperature_8 ⟨Nat.le_of_ble_eq_true rfl, Nat.le_of_ble_eq_true rfl⟩) hS (fun locs hS => ?_)
  refine lv_l2i hx hb dX10_temperature_11 rfl ?_
  exact W.iret (v := (F1_temperatureOf (pB u) p1).toInt32) hx hb hr (fun t ht hW => ⟨⟨(F1_temperatureOf (pB u) p1).toInt32, (), rfl, ((rfl).symm), ht⟩, hS.F ht⟩) hS.2.2 dX10_temperature_12
def F10_stored (u : PlS) : Int64 := (F1_energyOfAll (pB u))
set_option maxHeartbeats 4000000 in
set_option maxRecDepth 100000 in
theorem m10_stored (l : Launch) (D : va_G) (cI cL cP : ClassId) (b0 : Nat) (b1 : Nat) (b2 : Nat) (b3 : Nat) (a4 : Nat → Nat) (u : PlS) (H0 : Heap) : Met l yX10_stored wsX10_stored ({ frames := 1, cells := 0, slots := 0, locals := 23 }) (va_Pc [.ref b0] (pR D cI cL cP H0 (wF [gX b0 (a4 0) b1 b2 b3, gO (a4 0) (a4 1) (a4 3) (a4 7) (a4 10) (a4 12) (a4 14) (a4 16) (pT u), gS cI (a4 1) (a4 2) (pS u), gWe cI (a4 3) (a4 4) (a4 5) (a4 6) (pW u), gK cI (a4 7) (a4 8) (a4 9) (pK u), gB cL (a4 10) (a4 11) (pB u), gP cI (a4 12) (a4 13) (pP u), gA cI (a4 14) (a4 15) (pA u), gC (a4 16) (pC u)]))) (va_Ql (fun (r : Int64) (_ : Unit) => r = F10_stored u) (qE H0) nF) 0 0 nF := by
  refine Met.ofW (cc := cX10_stored) (maxL := 1) (ret := (some .long)) (by decide) rfl ?_
  intro p e s m args below meth c s₁ B hml hv
  obtain ⟨rfl, rfl, hP, hQ⟩ := hv
  have hx := B.exec
  have hb := B.bytes
  have hr := B.returns
  have hts := atoms_spec (ws := wsX10_stored) B.pre
  have hown : s.vm.findClass RX10 = some m.cls := findClass_of_methodNamed B.named
  have hlocks := B.notSynchronized
  have hS : va_S nF s.heap s.heap [] := va_S.rf
  have hl := lv_entry ([.ref b0]) (n := 1) (Nat.le_of_ble_eq_true rfl)
  rw [lg_entry_eq]
  generalize (lg_sl ([.ref b0]) ++ List.replicate (1 - (lg_sl ([.ref b0])).length) Slot.unset).toArray = ls at hl ⊢
  have hl : lv_has ls 1 [(0, .ref b0)] := hl
  have hinX1 : ∀ w ∈ wsX10, w ∈ wsX10_stored := fun _ h => List.mem_cons_of_mem _ (List.mem_append_right _ h)
  have hinX5 : ∀ w ∈ wsX50, w ∈ wsX10_stored := fun _ h => List.mem_cons_of_mem _ (List.mem_append_left _ (List.mem_append_right _ h))
  have hinX10 : ∀ w ∈ wsX100, w ∈ wsX10_stored := fun _ h => List.mem_cons_of_mem _ (List.mem_append_left _ (List.mem_append_left _ (List.mem_append_right _ h)))
  refine lv_aload_n hx hb dX10_stored_0 rfl (lv_at hl 0 rfl) ?_
  refine va_get (D := D) (ci := 10) (v := .ref (a4 0)) (C := RX10) (T := TX10) (N := 4) hx hb hts hinX10 hown hQ.1 hP 0 rfl rfl 0 (by decide) (hts (.fieldLink RX10 10 "HeatPumpPlant" "plant" "LHeatPumpPlant$Plant;") (List.mem_of_getElem? (i := 1) rfl)) (fun _ h9 => h9) rfl dX10_stored_1 ?_
  refine va_get (D := D) (ci := 5) (v := .ref (a4 10)) (C := RX5) (T := TX5) (N := 8) hx hb hts hinX5 hown hQ.1 hP 1 rfl rfl 3 (by decide) (hts (.fieldLink RX10 135 "HeatPumpPlant$Plant" "buffer" "LHeatPumpPlant$Buffer;") (List.mem_of_getElem? (i := 2) rfl)) (fun _ h9 => h9) rfl dX10_stored_4 ?_
  have hPc : va_P D vwCl (wF [gB cL (a4 10) (a4 11) (pB u)]) s.heap := hP.sub [11, 12] rfl
  refine c_Rl (va_runV (As := []) (rest := []) ⟨hx, hb, hml, hown, hts⟩ (m1_energyOfAll l D cI cL cP (a4 10) (a4 11) (pB u) s.heap) (cwV 0 hts gX10_stored_X1_energyOfAll rfl rfl rfl (by decide +kernel) ⟨Nat.le_of_ble_eq_true rfl, Nat.le_of_ble_eq_true rfl⟩) (preR_V (q := (RX1, TX1, 2)) (q0 := 0) hQ hPc rfl rfl) rfl rfl hl.1 rfl (lv_room (Nat.le_of_ble_eq_true rfl)) dX10_stored_7 ⟨Nat.le_of_ble_eq_true rfl, Nat.le_of_ble_eq_true rfl⟩) hS (fun locs hS => ?_)
  exact W.lret (v := (F1_energyOfAll (pB u))) hx hb hr (fun t ht hW => ⟨⟨(F1_energyOfAll (pB u)), (), rfl, ((rfl).symm), ht⟩, hS.F ht⟩) hS.2.2 dX10_stored_10
def F10_time (u : PlS) : Int32 := (pT u)
set_option maxHeartbeats 4000000 in
set_option maxRecDepth 100000 in
theorem m10_time (l : Launch) (D : va_G) (cI cL cP : ClassId) (b0 : Nat) (b1 : Nat) (b2 : Nat) (b3 : Nat) (a4 : Nat → Nat) (u : PlS) (H0 : Heap) : Met l yX10_time wsX10_time ({ frames := 0, cells := 0, slots := 0, locals := 0 }) (va_Pc [.ref b0] (pR D cI cL cP H0 (wF [gX b0 (a4 0) b1 b2 b3, gO (a4 0) (a4 1) (a4 3) (a4 7) (a4 10) (a4 12) (a4 14) (a4 16) (pT u), gS cI (a4 1) (a4 2) (pS u), gWe cI (a4 3) (a4 4) (a4 5) (a4 6) (pW u), gK cI (a4 7) (a4 8) (a4 9) (pK u), gB cL (a4 10) (a4 11) (pB u), gP cI (a4 12) (a4 13) (pP u), gA cI (a4 14) (a4 15) (pA u), gC (a4 16) (pC u)]))) (va_Qi (fun (r : Int32) (_ : Unit) => r = F10_time u) (qE H0) nF) 0 0 nF := by
  refine Met.ofW (cc := cX10_time) (maxL := 1) (ret := (some .int)) (by decide) rfl ?_
  intro p e s m args below meth c s₁ B hml hv
  obtain ⟨rfl, rfl, hP, hQ⟩ := hv
  have hx := B.exec
  have hb := B.bytes
  have hr := B.returns
  have hts := atoms_spec (ws := wsX10_time) B.pre
  have hown : s.vm.findClass RX10 = some m.cls := findClass_of_methodNamed B.named
  have hlocks := B.notSynchronized
  have hS : va_S nF s.heap s.heap [] := va_S.rf
  have hl := lv_entry ([.ref b0]) (n := 1) (Nat.le_of_ble_eq_true rfl)
  rw [lg_entry_eq]
  generalize (lg_sl ([.ref b0]) ++ List.replicate (1 - (lg_sl ([.ref b0])).length) Slot.unset).toArray = ls at hl ⊢
  have hl : lv_has ls 1 [(0, .ref b0)] := hl
  have hinX5 : ∀ w ∈ wsX50, w ∈ wsX10_time := fun _ h => List.mem_cons_of_mem _ (List.mem_append_right _ h)
  have hinX10 : ∀ w ∈ wsX100, w ∈ wsX10_time := fun _ h => List.mem_cons_of_mem _ (List.mem_append_left _ (List.mem_append_right _ h))
  refine lv_aload_n hx hb dX10_time_0 rfl (lv_at hl 0 rfl) ?_
  refine va_get (D := D) (ci := 10) (v := .ref (a4 0)) (C := RX10) (T := TX10) (N := 4) hx hb hts hinX10 hown hQ.1 hP 0 rfl rfl 0 (by decide) (hts (.fieldLink RX10 10 "HeatPumpPlant" "plant" "LHeatPumpPlant$Plant;") (List.mem_of_getElem? (i := 1) rfl)) (fun _ h9 => h9) rfl dX10_time_1 ?_
  refine va_get (D := D) (ci := 5) (v := .int (pT u)) (C := RX5) (T := TX5) (N := 8) hx hb hts hinX5 hown hQ.1 hP 1 rfl rfl 7 (by decide) (hts (.fieldLink RX10 150 "HeatPumpPlant$Plant" "time" "I") (List.mem_of_getElem? (i := 2) rfl)) (fun _ h9 => h9) rfl dX10_time_4 ?_
  exact W.iret (v := (pT u)) hx hb hr (fun t ht hW => ⟨⟨(pT u), (), rfl, ((rfl).symm), ht⟩, hS.F ht⟩) hS.2.2 dX10_time_7
def F10_pump (u : PlS) : Int32 := ((pP u).1)
set_option maxHeartbeats 4000000 in
set_option maxRecDepth 100000 in
theorem m10_pump (l : Launch) (D : va_G) (cI cL cP : ClassId) (b0 : Nat) (b1 : Nat) (b2 : Nat) (b3 : Nat) (a4 : Nat → Nat) (u : PlS) (H0 : Heap) : Met l yX10_pump wsX10_pump ({ frames := 0, cells := 0, slots := 0, locals := 0 }) (va_Pc [.ref b0] (pR D cI cL cP H0 (wF [gX b0 (a4 0) b1 b2 b3, gO (a4 0) (a4 1) (a4 3) (a4 7) (a4 10) (a4 12) (a4 14) (a4 16) (pT u), gS cI (a4 1) (a4 2) (pS u), gWe cI (a4 3) (a4 4) (a4 5) (a4 6) (pW u), gK cI (a4 7) (a4 8) (a4 9) (pK u), gB cL (a4 10) (a4 11) (pB u), gP cI (a4 12) (a4 13) (pP u), gA cI (a4 14) (a4 15) (pA u), gC (a4 16) (pC u)]))) (va_Qi (fun (r : Int32) (_ : Unit) => r = F10_pump u) (qE H0) nF) 0 0 nF := by
  refine Met.ofW (cc := cX10_pump) (maxL := 1) (ret := (some .int)) (by decide) rfl ?_
  intro p e s m args below meth c s₁ B hml hv
  obtain ⟨rfl, rfl, hP, hQ⟩ := hv
  have hx := B.exec
  have hb := B.bytes
  have hr := B.returns
  have hts := atoms_spec (ws := wsX10_pump) B.pre
  have hown : s.vm.findClass RX10 = some m.cls := findClass_of_methodNamed B.named
  have hlocks := B.notSynchronized
  have hS : va_S nF s.heap s.heap [] := va_S.rf
  have hl := lv_entry ([.ref b0]) (n := 1) (Nat.le_of_ble_eq_true rfl)
  rw [lg_entry_eq]
  generalize (lg_sl ([.ref b0]) ++ List.replicate (1 - (lg_sl ([.ref b0])).length) Slot.unset).toArray = ls at hl ⊢
  have hl : lv_has ls 1 [(0, .ref b0)] := hl
  have hinX5 : ∀ w ∈ wsX50, w ∈ wsX10_pump := fun _ h => List.mem_cons_of_mem _ (List.mem_append_left _ (List.mem_append_right _ h))
  have hinX6 : ∀ w ∈ wsX60, w ∈ wsX10_pump := fun _ h => List.mem_cons_of_mem _ (List.mem_append_right _ h)
  have hinX10 : ∀ w ∈ wsX100, w ∈ wsX10_pump := fun _ h => List.mem_cons_of_mem _ (List.mem_append_left _ (List.mem_append_left _ (List.mem_append_right _ h)))
  refine lv_aload_n hx hb dX10_pump_0 rfl (lv_at hl 0 rfl) ?_
  refine va_get (D := D) (ci := 10) (v := .ref (a4 0)) (C := RX10) (T := TX10) (N := 4) hx hb hts hinX10 hown hQ.1 hP 0 rfl rfl 0 (by decide) (hts (.fieldLink RX10 10 "HeatPumpPlant" "plant" "LHeatPumpPlant$Plant;") (List.mem_of_getElem? (i := 1) rfl)) (fun _ h9 => h9) rfl dX10_pump_1 ?_
  refine va_get (D := D) (ci := 5) (v := .ref (a4 12)) (C := RX5) (T := TX5) (N := 8) hx hb hts hinX5 hown hQ.1 hP 1 rfl rfl 4 (by decide) (hts (.fieldLink RX10 166 "HeatPumpPlant$Plant" "pump" "LHeatPumpPlant$Pump;") (List.mem_of_getElem? (i := 2) rfl)) (fun _ h9 => h9) rfl dX10_pump_4 ?_
  refine va_get (D := D) (ci := 6) (v := .int ((pP u).1)) (C := RX6) (T := TX6) (N := 7) hx hb hts hinX6 hown hQ.1 hP 13 rfl rfl 0 (by decide) (hts (.fieldLink RX10 170 "HeatPumpPlant$Pump" "mode" "I") (List.mem_of_getElem? (i := 3) rfl)) (fun _ h9 => h9) rfl dX10_pump_7 ?_
  exact W.iret (v := (pP u).1) hx hb hr (fun t ht hW => ⟨⟨(pP u).1, (), rfl, ((rfl).symm), ht⟩, hS.F ht⟩) hS.2.2 dX10_pump_10
def F10_reason (u : PlS) : Int32 := ((pA u).2.1)
set_option maxHeartbeats 4000000 in
set_option maxRecDepth 100000 in
theorem m10_reason (l : Launch) (D : va_G) (cI cL cP : ClassId) (b0 : Nat) (b1 : Nat) (b2 : Nat) (b3 : Nat) (a4 : Nat → Nat) (u : PlS) (H0 : Heap) : Met l yX10_reason wsX10_reason ({ frames := 0, cells := 0, slots := 0, locals := 0 }) (va_Pc [.ref b0] (pR D cI cL cP H0 (wF [gX b0 (a4 0) b1 b2 b3, gO (a4 0) (a4 1) (a4 3) (a4 7) (a4 10) (a4 12) (a4 14) (a4 16) (pT u), gS cI (a4 1) (a4 2) (pS u), gWe cI (a4 3) (a4 4) (a4 5) (a4 6) (pW u), gK cI (a4 7) (a4 8) (a4 9) (pK u), gB cL (a4 10) (a4 11) (pB u), gP cI (a4 12) (a4 13) (pP u), gA cI (a4 14) (a4 15) (pA u), gC (a4 16) (pC u)]))) (va_Qi (fun (r : Int32) (_ : Unit) => r = F10_reason u) (qE H0) nF) 0 0 nF := by
  refine Met.ofW (cc := cX10_reason) (maxL := 1) (ret := (some .int)) (by decide) rfl ?_
  intro p e s m args below meth c s₁ B hml hv
  obtain ⟨rfl, rfl, hP, hQ⟩ := hv
  have hx := B.exec
  have hb := B.bytes
  have hr := B.returns
  have hts := atoms_spec (ws := wsX10_reason) B.pre
  have hown : s.vm.findClass RX10 = some m.cls := findClass_of_methodNamed B.named
  have hlocks := B.notSynchronized
  have hS : va_S nF s.heap s.heap [] := va_S.rf
  have hl := lv_entry ([.ref b0]) (n := 1) (Nat.le_of_ble_eq_true rfl)
  rw [lg_entry_eq]
  generalize (lg_sl ([.ref b0]) ++ List.replicate (1 - (lg_sl ([.ref b0])).length) Slot.unset).toArray = ls at hl ⊢
  have hl : lv_has ls 1 [(0, .ref b0)] := hl
  have hinX0 : ∀ w ∈ wsX00, w ∈ wsX10_reason := fun _ h => List.mem_cons_of_mem _ (List.mem_append_right _ h)
  have hinX5 : ∀ w ∈ wsX50, w ∈ wsX10_reason := fun _ h => List.mem_cons_of_mem _ (List.mem_append_left _ (List.mem_append_right _ h))
  have hinX10 : ∀ w ∈ wsX100, w ∈ wsX10_reason := fun _ h => List.mem_cons_of_mem _ (List.mem_append_left _ (List.mem_append_left _ (List.mem_append_right _ h)))
  refine lv_aload_n hx hb dX10_reason_0 rfl (lv_at hl 0 rfl) ?_
  refine va_get (D := D) (ci := 10) (v := .ref (a4 0)) (C := RX10) (T := TX10) (N := 4) hx hb hts hinX10 hown hQ.1 hP 0 rfl rfl 0 (by decide) (hts (.fieldLink RX10 10 "HeatPumpPlant" "plant" "LHeatPumpPlant$Plant;") (List.mem_of_getElem? (i := 1) rfl)) (fun _ h9 => h9) rfl dX10_reason_1 ?_
  refine va_get (D := D) (ci := 5) (v := .ref (a4 14)) (C := RX5) (T := TX5) (N := 8) hx hb hts hinX5 hown hQ.1 hP 1 rfl rfl 5 (by decide) (hts (.fieldLink RX10 154 "HeatPumpPlant$Plant" "accounts" "LHeatPumpPlant$Accounts;") (List.mem_of_getElem? (i := 2) rfl)) (fun _ h9 => h9) rfl dX10_reason_4 ?_
  refine va_get (D := D) (ci := 0) (v := .int ((pA u).2.1)) (C := RX0) (T := TX0) (N := 11) hx hb hts hinX0 hown hQ.1 hP 15 rfl rfl 1 (by decide) (hts (.fieldLink RX10 175 "HeatPumpPlant$Accounts" "latestReason" "I") (List.mem_of_getElem? (i := 3) rfl)) (fun _ h9 => h9) rfl dX10_reason_7 ?_
  exact W.iret (v := (pA u).2.1) hx hb hr (fun t ht hW => ⟨⟨(pA u).2.1, (), rfl, ((rfl).symm), ht⟩, hS.F ht⟩) hS.2.2 dX10_reason_10
def F10_minutesWith (u : PlS) (p1 : Int32) : Int32 := (F10_elementOr 12 ((pA u).1) p1 (-1 : Int32))
set_option maxHeartbeats 4000000 in
set_option maxRecDepth 100000 in
theorem m10_minutesWith (l : Launch) (D : va_G) (cI cL cP : ClassId) (b0 : Nat) (b1 : Nat) (b2 : Nat) (b3 : Nat) (a4 : Nat → Nat) (u : PlS) (p1 : Int32) (H0 : Heap) : Met l yX10_minutesWith wsX10_minutesWith ({ frames := 1, cells := 0, slots := 0, locals := 22 }) (va_Pc [.ref b0, .int p1] (pR D cI cL cP H0 (wF [gX b0 (a4 0) b1 b2 b3, gO (a4 0) (a4 1) (a4 3) (a4 7) (a4 10) (a4 12) (a4 14) (a4 16) (pT u), gS cI (a4 1) (a4 2) (pS u), gWe cI (a4 3) (a4 4) (a4 5) (a4 6) (pW u), gK cI (a4 7) (a4 8) (a4 9) (pK u), gB cL (a4 10) (a4 11) (pB u), gP cI (a4 12) (a4 13) (pP u), gA cI (a4 14) (a4 15) (pA u), gC (a4 16) (pC u)]))) (va_Qi (fun (r : Int32) (_ : Unit) => r = F10_minutesWith u p1) (qE H0) nF) 0 0 nF := by
  refine Met.ofW (cc := cX10_minutesWith) (maxL := 2) (ret := (some .int)) (by decide) rfl ?_
  intro p e s m args below meth c s₁ B hml hv
  obtain ⟨rfl, rfl, hP, hQ⟩ := hv
  have hx := B.exec
  have hb := B.bytes
  have hr := B.returns
  have hts := atoms_spec (ws := wsX10_minutesWith) B.pre
  have hown : s.vm.findClass RX10 = some m.cls := findClass_of_methodNamed B.named
  have hlocks := B.notSynchronized
  have hS : va_S nF s.heap s.heap [] := va_S.rf
  have hl := lv_entry ([.ref b0, .int p1]) (n := 2) (Nat.le_of_ble_eq_true rfl)
  rw [lg_entry_eq]
  generalize (lg_sl ([.ref b0, .int p1]) ++ List.replicate (2 - (lg_sl ([.ref b0, .int p1])).length) Slot.unset).toArray = ls at hl ⊢
  have hl : lv_has ls 2 [(0, .ref b0), (1, .int p1)] := hl
  have hinX0 : ∀ w ∈ wsX00, w ∈ wsX10_minutesWith := fun _ h => List.mem_cons_of_mem _ (List.mem_append_right _ h)
  have hinX5 : ∀ w ∈ wsX50, w ∈ wsX10_minutesWith := fun _ h => List.mem_cons_of_mem _ (List.mem_append_left _ (List.mem_append_right _ h))
  have hinX10 : ∀ w ∈ wsX100, w ∈ wsX10_minutesWith := fun _ h => List.mem_cons_of_mem _ (List.mem_append_left _ (List.mem_append_left _ (List.mem_append_right _ h)))
  refine lv_aload_n hx hb dX10_minutesWith_0 rfl (lv_at hl 0 rfl) ?_
  refine va_get (D := D) (ci := 10) (v := .ref (a4 0)) (C := RX10) (T := TX10) (N := 4) hx hb hts hinX10 hown hQ.1 hP 0 rfl rfl 0 (by decide) (hts (.fieldLink RX10 10 "HeatPumpPlant" "plant" "LHeatPumpPlant$Plant;") (List.mem_of_getElem? (i := 1) rfl)) (fun _ h9 => h9) rfl dX10_minutesWith_1 ?_
  refine va_get (D := D) (ci := 5) (v := .ref (a4 14)) (C := RX5) (T := TX5) (N := 8) hx hb hts hinX5 hown hQ.1 hP 1 rfl rfl 5 (by decide) (hts (.fieldLink RX10 154 "HeatPumpPlant$Plant" "accounts" "LHeatPumpPlant$Accounts;") (List.mem_of_getElem? (i := 2) rfl)) (fun _ h9 => h9) rfl dX10_minutesWith_4 ?_
  refine va_get (D := D) (ci := 0) (v := .ref (a4 15)) (C := RX0) (T := TX0) (N := 11) hx hb hts hinX0 hown hQ.1 hP 15 rfl rfl 0 (by decide) (hts (.fieldLink RX10 178 "HeatPumpPlant$Accounts" "minutesByReason" "[I") (List.mem_of_getElem? (i := 3) rfl)) (fun _ h9 => h9) rfl dX10_minutesWith_7 ?_
  refine lv_iload_n hx hb dX10_minutesWith_10 rfl (lv_at hl 1 rfl) ?_
  refine lv_iconst (v := (-1 : Int32)) hx hb dX10_minutesWith_11 (by decide) ?_
  have hPc : va_P D vwCl (wF [gI cI (a4 15) 12 ((pA u).1)]) s.heap := hP.sub [16] rfl
  refine c_Ri (va_runS (As := [.ref (a4 15), .int p1, .int (-1 : Int32)]) (rest := []) ⟨hx, hb, hml, hown, hts⟩ (m10_elementOr l D cI cL cP (a4 15) 12 ((pA u).1) p1 (-1 : Int32) (by decide) s.heap) (va_cwS 3 hts gX10_minutesWith_X10_elementOr rfl rfl rfl (by decide +kernel) ⟨Nat.le_of_ble_eq_true rfl, Nat.le_of_ble_eq_true rfl⟩) (preR_S hQ hPc) rfl rfl hl.1 rfl (lv_room (Nat.le_of_ble_eq_true rfl)) dX10_minutesWith_12 ⟨Nat.le_of_ble_eq_true rfl, Nat.le_of_ble_eq_true rfl⟩) hS (fun locs hS => ?_)
  exact W.iret (v := (F10_elementOr 12 ((pA u).1) p1 (-1 : Int32))) hx hb hr (fun t ht hW => ⟨⟨(F10_elementOr 12 ((pA u).1) p1 (-1 : Int32)), (), rfl, ((rfl).symm), ht⟩, hS.F ht⟩) hS.2.2 dX10_minutesWith_15
def F10_startsLastHour (u : PlS) : Int32 := ((pP u).2.2.2.2.2.1)
set_option maxHeartbeats 4000000 in
set_option maxRecDepth 100000 in
theorem m10_startsLastHour (l : Launch) (D : va_G) (cI cL cP : ClassId) (b0 : Nat) (b1 : Nat) (b2 : Nat) (b3 : Nat) (a4 : Nat → Nat) (u : PlS) (H0 : Heap) : Met l yX10_startsLastHour wsX10_startsLastHour ({ frames := 0, cells := 0, slots := 0, locals := 0 }) (va_Pc [.ref b0] (pR D cI cL cP H0 (wF [gX b0 (a4 0) b1 b2 b3, gO (a4 0) (a4 1) (a4 3) (a4 7) (a4 10) (a4 12) (a4 14) (a4 16) (pT u), gS cI (a4 1) (a4 2) (pS u), gWe cI (a4 3) (a4 4) (a4 5) (a4 6) (pW u), gK cI (a4 7) (a4 8) (a4 9) (pK u), gB cL (a4 10) (a4 11) (pB u), gP cI (a4 12) (a4 13) (pP u), gA cI (a4 14) (a4 15) (pA u), gC (a4 16) (pC u)]))) (va_Qi (fun (r : Int32) (_ : Unit) => r = F10_startsLastHour u) (qE H0) nF) 0 0 nF := by
  refine Met.ofW (cc := cX10_startsLastHour) (maxL := 1) (ret := (some .int)) (by decide) rfl ?_
  intro p e s m args below meth c s₁ B hml hv
  obtain ⟨rfl, rfl, hP, hQ⟩ := hv
  have hx := B.exec
  have hb := B.bytes
  have hr := B.returns
  have hts := atoms_spec (ws := wsX10_startsLastHour) B.pre
  have hown : s.vm.findClass RX10 = some m.cls := findClass_of_methodNamed B.named
  have hlocks := B.notSynchronized
  have hS : va_S nF s.heap s.heap [] := va_S.rf
  have hl := lv_entry ([.ref b0]) (n := 1) (Nat.le_of_ble_eq_true rfl)
  rw [lg_entry_eq]
  generalize (lg_sl ([.ref b0]) ++ List.replicate (1 - (lg_sl ([.ref b0])).length) Slot.unset).toArray = ls at hl ⊢
  have hl : lv_has ls 1 [(0, .ref b0)] := hl
  have hinX5 : ∀ w ∈ wsX50, w ∈ wsX10_startsLastHour := fun _ h => List.mem_cons_of_mem _ (List.mem_append_left _ (List.mem_append_right _ h))
  have hinX6 : ∀ w ∈ wsX60, w ∈ wsX10_startsLastHour := fun _ h => List.mem_cons_of_mem _ (List.mem_append_right _ h)
  have hinX10 : ∀ w ∈ wsX100, w ∈ wsX10_startsLastHour := fun _ h => List.mem_cons_of_mem _ (List.mem_append_left _ (List.mem_append_left _ (List.mem_append_right _ h)))
  refine lv_aload_n hx hb dX10_startsLastHour_0 rfl (lv_at hl 0 rfl) ?_
  refine va_get (D := D) (ci := 10) (v := .ref (a4 0)) (C := RX10) (T := TX10) (N := 4) hx hb hts hinX10 hown hQ.1 hP 0 rfl rfl 0 (by decide) (hts (.fieldLink RX10 10 "HeatPumpPlant" "plant" "LHeatPumpPlant$Plant;") (List.mem_of_getElem? (i := 1) rfl)) (fun _ h9 => h9) rfl dX10_startsLastHour_1 ?_
  refine va_get (D := D) (ci := 5) (v := .ref (a4 12)) (C := RX5) (T := TX5) (N := 8) hx hb hts hinX5 hown hQ.1 hP 1 rfl rfl 4 (by decide) (hts (.fieldLink RX10 166 "HeatPumpPlant$Plant" "pump" "LHeatPumpPlant$Pump;") (List.mem_of_getElem? (i := 2) rfl)) (fun _ h9 => h9) rfl dX10_startsLastHour_4 ?_
  refine va_get (D := D) (ci := 6) (v := .int ((pP u).2.2.2.2.2.1)) (C := RX6) (T := TX6) (N := 7) hx hb hts hinX6 hown hQ.1 hP 13 rfl rfl 5 (by decide) (hts (.fieldLink RX10 181 "HeatPumpPlant$Pump" "recentStarts" "I") (List.mem_of_getElem? (i := 3) rfl)) (fun _ h9 => h9) rfl dX10_startsLastHour_7 ?_
  exact W.iret (v := (pP u).2.2.2.2.2.1) hx hb hr (fun t ht hW => ⟨⟨(pP u).2.2.2.2.2.1, (), rfl, ((rfl).symm), ht⟩, hS.F ht⟩) hS.2.2 dX10_startsLastHour_10
def F10_starts (u : PlS) : Int32 := ((pA u).2.2.1)
set_option maxHeartbeats 4000000 in
set_option maxRecDepth 100000 in
theorem m10_starts (l : Launch) (D : va_G) (cI cL cP : ClassId) (b0 : Nat) (b1 : Nat) (b2 : Nat) (b3 : Nat) (a4 : Nat → Nat) (u : PlS) (H0 : Heap) : Met l yX10_starts wsX10_starts ({ frames := 0, cells := 0, slots := 0, locals := 0 }) (va_Pc [.ref b0] (pR D cI cL cP H0 (wF [gX b0 (a4 0) b1 b2 b3, gO (a4 0) (a4 1) (a4 3) (a4 7) (a4 10) (a4 12) (a4 14) (a4 16) (pT u), gS cI (a4 1) (a4 2) (pS u), gWe cI (a4 3) (a4 4) (a4 5) (a4 6) (pW u), gK cI (a4 7) (a4 8) (a4 9) (pK u), gB cL (a4 10) (a4 11) (pB u), gP cI (a4 12) (a4 13) (pP u), gA cI (a4 14) (a4 15) (pA u), gC (a4 16) (pC u)]))) (va_Qi (fun (r : Int32) (_ : Unit) => r = F10_starts u) (qE H0) nF) 0 0 nF := by
  refine Met.ofW (cc := cX10_starts) (maxL := 1) (ret := (some .int)) (by decide) rfl ?_
  intro p e s m args below meth c s₁ B hml hv
  obtain ⟨rfl, rfl, hP, hQ⟩ := hv
  have hx := B.exec
  have hb := B.bytes
  have hr := B.returns
  have hts := atoms_spec (ws := wsX10_starts) B.pre
  have hown : s.vm.findClass RX10 = some m.cls := findClass_of_methodNamed B.named
  have hlocks := B.notSynchronized
  have hS : va_S nF s.heap s.heap [] := va_S.rf
  have hl := lv_entry ([.ref b0]) (n := 1) (Nat.le_of_ble_eq_true rfl)
  rw [lg_entry_eq]
  generalize (lg_sl ([.ref b0]) ++ List.replicate (1 - (lg_sl ([.ref b0])).length) Slot.unset).toArray = ls at hl ⊢
  have hl : lv_has ls 1 [(0, .ref b0)] := hl
  have hinX0 : ∀ w ∈ wsX00, w ∈ wsX10_starts := fun _ h => List.mem_cons_of_mem _ (List.mem_append_right _ h)
  have hinX5 : ∀ w ∈ wsX50, w ∈ wsX10_starts := fun _ h => List.mem_cons_of_mem _ (List.mem_append_left _ (List.mem_append_right _ h))
  have hinX10 : ∀ w ∈ wsX100, w ∈ wsX10_starts := fun _ h => List.mem_cons_of_mem _ (List.mem_append_left _ (List.mem_append_left _ (List.mem_append_right _ h)))
  refine lv_aload_n hx hb dX10_starts_0 rfl (lv_at hl 0 rfl) ?_
  refine va_get (D := D) (ci := 10) (v := .ref (a4 0)) (C := RX10) (T := TX10) (N := 4) hx hb hts hinX10 hown hQ.1 hP 0 rfl rfl 0 (by decide) (hts (.fieldLink RX10 10 "HeatPumpPlant" "plant" "LHeatPumpPlant$Plant;") (List.mem_of_getElem? (i := 1) rfl)) (fun _ h9 => h9) rfl dX10_starts_1 ?_
  refine va_get (D := D) (ci := 5) (v := .ref (a4 14)) (C := RX5) (T := TX5) (N := 8) hx hb hts hinX5 hown hQ.1 hP 1 rfl rfl 5 (by decide) (hts (.fieldLink RX10 154 "HeatPumpPlant$Plant" "accounts" "LHeatPumpPlant$Accounts;") (List.mem_of_getElem? (i := 2) rfl)) (fun _ h9 => h9) rfl dX10_starts_4 ?_
  refine va_get (D := D) (ci := 0) (v := .int ((pA u).2.2.1)) (C := RX0) (T := TX0) (N := 11) hx hb hts hinX0 hown hQ.1 hP 15 rfl rfl 2 (by decide) (hts (.fieldLink RX10 158 "HeatPumpPlant$Accounts" "starts" "I") (List.mem_of_getElem? (i := 3) rfl)) (fun _ h9 => h9) rfl dX10_starts_7 ?_
  exact W.iret (v := (pA u).2.2.1) hx hb hr (fun t ht hW => ⟨⟨(pA u).2.2.1, (), rfl, ((rfl).symm), ht⟩, hS.F ht⟩) hS.2.2 dX10_starts_10
def F10_defrosts (u : PlS) : Int32 := ((pA u).2.2.2.1)
set_option maxHeartbeats 4000000 in
set_option maxRecDepth 100000 in
theorem m10_defrosts (l : Launch) (D : va_G) (cI cL cP : ClassId) (b0 : Nat) (b1 : Nat) (b2 : Nat) (b3 : Nat) (a4 : Nat → Nat) (u : PlS) (H0 : Heap) : Met l yX10_defrosts wsX10_defrosts ({ frames := 0, cells := 0, slots := 0, locals := 0 }) (va_Pc [.ref b0] (pR D cI cL cP H0 (wF [gX b0 (a4 0) b1 b2 b3, gO (a4 0) (a4 1) (a4 3) (a4 7) (a4 10) (a4 12) (a4 14) (a4 16) (pT u), gS cI (a4 1) (a4 2) (pS u), gWe cI (a4 3) (a4 4) (a4 5) (a4 6) (pW u), gK cI (a4 7) (a4 8) (a4 9) (pK u), gB cL (a4 10) (a4 11) (pB u), gP cI (a4 12) (a4 13) (pP u), gA cI (a4 14) (a4 15) (pA u), gC (a4 16) (pC u)]))) (va_Qi (fun (r : Int32) (_ : Unit) => r = F10_defrosts u) (qE H0) nF) 0 0 nF := by
  refine Met.ofW (cc := cX10_defrosts) (maxL := 1) (ret := (some .int)) (by decide) rfl ?_
  intro p e s m args below meth c s₁ B hml hv
  obtain ⟨rfl, rfl, hP, hQ⟩ := hv
  have hx := B.exec
  have hb := B.bytes
  have hr := B.returns
  have hts := atoms_spec (ws := wsX10_defrosts) B.pre
  have hown : s.vm.findClass RX10 = some m.cls := findClass_of_methodNamed B.named
  have hlocks := B.notSynchronized
  have hS : va_S nF s.heap s.heap [] := va_S.rf
  have hl := lv_entry ([.ref b0]) (n := 1) (Nat.le_of_ble_eq_true rfl)
  rw [lg_entry_eq]
  generalize (lg_sl ([.ref b0]) ++ List.replicate (1 - (lg_sl ([.ref b0])).length) Slot.unset).toArray = ls at hl ⊢
  have hl : lv_has ls 1 [(0, .ref b0)] := hl
  have hinX0 : ∀ w ∈ wsX00, w ∈ wsX10_defrosts := fun _ h => List.mem_cons_of_mem _ (List.mem_append_right _ h)
  have hinX5 : ∀ w ∈ wsX50, w ∈ wsX10_defrosts := fun _ h => List.mem_cons_of_mem _ (List.mem_append_left _ (List.mem_append_right _ h))
  have hinX10 : ∀ w ∈ wsX100, w ∈ wsX10_defrosts := fun _ h => List.mem_cons_of_mem _ (List.mem_append_left _ (List.mem_append_left _ (List.mem_append_right _ h)))
  refine lv_aload_n hx hb dX10_defrosts_0 rfl (lv_at hl 0 rfl) ?_
  refine va_get (D := D) (ci := 10) (v := .ref (a4 0)) (C := RX10) (T := TX10) (N := 4) hx hb hts hinX10 hown hQ.1 hP 0 rfl rfl 0 (by decide) (hts (.fieldLink RX10 10 "HeatPumpPlant" "plant" "LHeatPumpPlant$Plant;") (List.mem_of_getElem? (i := 1) rfl)) (fun _ h9 => h9) rfl dX10_defrosts_1 ?_
  refine va_get (D := D) (ci := 5) (v := .ref (a4 14)) (C := RX5) (T := TX5) (N := 8) hx hb hts hinX5 hown hQ.1 hP 1 rfl rfl 5 (by decide) (hts (.fieldLink RX10 154 "HeatPumpPlant$Plant" "accounts" "LHeatPumpPlant$Accounts;") (List.mem_of_getElem? (i := 2) rfl)) (fun _ h9 => h9) rfl dX10_defrosts_4 ?_
  refine va_get (D := D) (ci := 0) (v := .int ((pA u).2.2.2.1)) (C := RX0) (T := TX0) (N := 11) hx hb hts hinX0 hown hQ.1 hP 15 rfl rfl 3 (by decide) (hts (.fieldLink RX10 184 "HeatPumpPlant$Accounts" "defrosts" "I") (List.mem_of_getElem? (i := 3) rfl)) (fun _ h9 => h9) rfl dX10_defrosts_7 ?_
  exact W.iret (v := (pA u).2.2.2.1) hx hb hr (fun t ht hW => ⟨⟨(pA u).2.2.2.1, (), rfl, ((rfl).symm), ht⟩, hS.F ht⟩) hS.2.2 dX10_defrosts_10
def F10_frost (u : PlS) : Int32 := ((pP u).2.2.2.2.1)
set_option maxHeartbeats 4000000 in
set_option maxRecDepth 100000 in
theorem m10_frost (l : Launch) (D : va_G) (cI cL cP : ClassId) (b0 : Nat) (b1 : Nat) (b2 : Nat) (b3 : Nat) (a4 : Nat → Nat) (u : PlS) (H0 : Heap) : Met l yX10_frost wsX10_frost ({ frames := 0, cells := 0, slots := 0, locals := 0 }) (va_Pc [.ref b0] (pR D cI cL cP H0 (wF [gX b0 (a4 0) b1 b2 b3, gO (a4 0) (a4 1) (a4 3) (a4 7) (a4 10) (a4 12) (a4 14) (a4 16) (pT u), gS cI (a4 1) (a4 2) (pS u), gWe cI (a4 3) (a4 4) (a4 5) (a4 6) (pW u), gK cI (a4 7) (a4 8) (a4 9) (pK u), gB cL (a4 10) (a4 11) (pB u), gP cI (a4 12) (a4 13) (pP u), gA cI (a4 14) (a4 15) (pA u), gC (a4 16) (pC u)]))) (va_Qi (fun (r : Int32) (_ : Unit) => r = F10_frost u) (qE H0) nF) 0 0 nF := by
  refine Met.ofW (cc := cX10_frost) (maxL := 1) (ret := (some .int)) (by decide) rfl ?_
  intro p e s m args below meth c s₁ B hml hv
  obtain ⟨rfl, rfl, hP, hQ⟩ := hv
  have hx := B.exec
  have hb := B.bytes
  have hr := B.returns
  have hts := atoms_spec (ws := wsX10_frost) B.pre
  have hown : s.vm.findClass RX10 = some m.cls := findClass_of_methodNamed B.named
  have hlocks := B.notSynchronized
  have hS : va_S nF s.heap s.heap [] := va_S.rf
  have hl := lv_entry ([.ref b0]) (n := 1) (Nat.le_of_ble_eq_true rfl)
  rw [lg_entry_eq]
  generalize (lg_sl ([.ref b0]) ++ List.replicate (1 - (lg_sl ([.ref b0])).length) Slot.unset).toArray = ls at hl ⊢
  have hl : lv_has ls 1 [(0, .ref b0)] := hl
  have hinX5 : ∀ w ∈ wsX50, w ∈ wsX10_frost := fun _ h => List.mem_cons_of_mem _ (List.mem_append_left _ (List.mem_append_right _ h))
  have hinX6 : ∀ w ∈ wsX60, w ∈ wsX10_frost := fun _ h => List.mem_cons_of_mem _ (List.mem_append_right _ h)
  have hinX10 : ∀ w ∈ wsX100, w ∈ wsX10_frost := fun _ h => List.mem_cons_of_mem _ (List.mem_append_left _ (List.mem_append_left _ (List.mem_append_right _ h)))
  refine lv_aload_n hx hb dX10_frost_0 rfl (lv_at hl 0 rfl) ?_
  refine va_get (D := D) (ci := 10) (v := .ref (a4 0)) (C := RX10) (T := TX10) (N := 4) hx hb hts hinX10 hown hQ.1 hP 0 rfl rfl 0 (by decide) (hts (.fieldLink RX10 10 "HeatPumpPlant" "plant" "LHeatPumpPlant$Plant;") (List.mem_of_getElem? (i := 1) rfl)) (fun _ h9 => h9) rfl dX10_frost_1 ?_
  refine va_get (D := D) (ci := 5) (v := .ref (a4 12)) (C := RX5) (T := TX5) (N := 8) hx hb hts hinX5 hown hQ.1 hP 1 rfl rfl 4 (by decide) (hts (.fieldLink RX10 166 "HeatPumpPlant$Plant" "pump" "LHeatPumpPlant$Pump;") (List.mem_of_getElem? (i := 2) rfl)) (fun _ h9 => h9) rfl dX10_frost_4 ?_
  refine va_get (D := D) (ci := 6) (v := .int ((pP u).2.2.2.2.1)) (C := RX6) (T := TX6) (N := 7) hx hb hts hinX6 hown hQ.1 hP 13 rfl rfl 4 (by decide) (hts (.fieldLink RX10 187 "HeatPumpPlant$Pump" "frost" "I") (List.mem_of_getElem? (i := 3) rfl)) (fun _ h9 => h9) rfl dX10_frost_7 ?_
  exact W.iret (v := (pP u).2.2.2.2.1) hx hb hr (fun t ht hW => ⟨⟨(pP u).2.2.2.2.1, (), rfl, ((rfl).symm), ht⟩, hS.F ht⟩) hS.2.2 dX10_frost_10
def F10_produced (u : PlS) : Int64 := ((pA u).2.2.2.2.1)
set_option maxHeartbeats 4000000 in
set_option maxRecDepth 100000 in
theorem m10_produced (l : Launch) (D : va_G) (cI cL cP : ClassId) (b0 : Nat) (b1 : Nat) (b2 : Nat) (b3 : Nat) (a4 : Nat → Nat) (u : PlS) (H0 : Heap) : Met l yX10_produced wsX10_produced ({ frames := 0, cells := 0, slots := 0, locals := 0 }) (va_Pc [.ref b0] (pR D cI cL cP H0 (wF [gX b0 (a4 0) b1 b2 b3, gO (a4 0) (a4 1) (a4 3) (a4 7) (a4 10) (a4 12) (a4 14) (a4 16) (pT u), gS cI (a4 1) (a4 2) (pS u), gWe cI (a4 3) (a4 4) (a4 5) (a4 6) (pW u), gK cI (a4 7) (a4 8) (a4 9) (pK u), gB cL (a4 10) (a4 11) (pB u), gP cI (a4 12) (a4 13) (pP u), gA cI (a4 14) (a4 15) (pA u), gC (a4 16) (pC u)]))) (va_Ql (fun (r : Int64) (_ : Unit) => r = F10_produced u) (qE H0) nF) 0 0 nF := by
  refine Met.ofW (cc := cX10_produced) (maxL := 1) (ret := (some .long)) (by decide) rfl ?_
  intro p e s m args below meth c s₁ B hml hv
  obtain ⟨rfl, rfl, hP, hQ⟩ := hv
  have hx := B.exec
  have hb := B.bytes
  have hr := B.returns
  have hts := atoms_spec (ws := wsX10_produced) B.pre
  have hown : s.vm.findClass RX10 = some m.cls := findClass_of_methodNamed B.named
  have hlocks := B.notSynchronized
  have hS : va_S nF s.heap s.heap [] := va_S.rf
  have hl := lv_entry ([.ref b0]) (n := 1) (Nat.le_of_ble_eq_true rfl)
  rw [lg_entry_eq]
  generalize (lg_sl ([.ref b0]) ++ List.replicate (1 - (lg_sl ([.ref b0])).length) Slot.unset).toArray = ls at hl ⊢
  have hl : lv_has ls 1 [(0, .ref b0)] := hl
  have hinX0 : ∀ w ∈ wsX00, w ∈ wsX10_produced := fun _ h => List.mem_cons_of_mem _ (List.mem_append_right _ h)
  have hinX5 : ∀ w ∈ wsX50, w ∈ wsX10_produced := fun _ h => List.mem_cons_of_mem _ (List.mem_append_left _ (List.mem_append_right _ h))
  have hinX10 : ∀ w ∈ wsX100, w ∈ wsX10_produced := fun _ h => List.mem_cons_of_mem _ (List.mem_append_left _ (List.mem_append_left _ (List.mem_append_right _ h)))
  refine lv_aload_n hx hb dX10_produced_0 rfl (lv_at hl 0 rfl) ?_
  refine va_get (D := D) (ci := 10) (v := .ref (a4 0)) (C := RX10) (T := TX10) (N := 4) hx hb hts hinX10 hown hQ.1 hP 0 rfl rfl 0 (by decide) (hts (.fieldLink RX10 10 "HeatPumpPlant" "plant" "LHeatPumpPlant$Plant;") (List.mem_of_getElem? (i := 1) rfl)) (fun _ h9 => h9) rfl dX10_produced_1 ?_
  refine va_get (D := D) (ci := 5) (v := .ref (a4 14)) (C := RX5) (T := TX5) (N := 8) hx hb hts hinX5 hown hQ.1 hP 1 rfl rfl 5 (by decide) (hts (.fieldLink RX10 154 "HeatPumpPlant$Plant" "accounts" "LHeatPumpPlant$Accounts;") (List.mem_of_getElem? (i := 2) rfl)) (fun _ h9 => h9) rfl dX10_produced_4 ?_
  refine va_get (D := D) (ci := 0) (v := .long ((pA u).2.2.2.2.1)) (C := RX0) (T := TX0) (N := 11) hx hb hts hinX0 hown hQ.1 hP 15 rfl rfl 4 (by decide) (hts (.fieldLink RX10 190 "HeatPumpPlant$Accounts" "produced" "J") (List.mem_of_getElem? (i := 3) rfl)) (fun _ h9 => h9) rfl dX10_produced_7 ?_
  exact W.lret (v := (pA u).2.2.2.2.1) hx hb hr (fun t ht hW => ⟨⟨(pA u).2.2.2.2.1, (), rfl, ((rfl).symm), ht⟩, hS.F ht⟩) hS.2.2 dX10_produced_10
def F10_defrostHeat (u : PlS) : Int64 := ((pA u).2.2.2.2.2.1)
set_option maxHeartbeats 4000000 in
set_option maxRecDepth 100000 in
theorem m10_defrostHeat (l : Launch) (D : va_G) (cI cL cP : ClassId) (b0 : Nat) (b1 : Nat) (b2 : Nat) (b3 : Nat) (a4 : Nat → Nat) (u : PlS) (H0 : Heap) : Met l yX10_defrostHeat wsX10_defrostHeat ({ frames := 0, cells := 0, slots := 0, locals := 0 }) (va_Pc [.ref b0] (pR D cI cL cP H0 (wF [gX b0 (a4 0) b1 b2 b3, gO (a4 0) (a4 1) (a4 3) (a4 7) (a4 10) (a4 12) (a4 14) (a4 16) (pT u), gS cI (a4 1) (a4 2) (pS u), gWe cI (a4 3) (a4 4) (a4 5) (a4 6) (pW u), gK cI (a4 7) (a4 8) (a4 9) (pK u), gB cL (a4 10) (a4 11) (pB u), gP cI (a4 12) (a4 13) (pP u), gA cI (a4 14) (a4 15) (pA u), gC (a4 16) (pC u)]))) (va_Ql (fun (r : Int64) (_ : Unit) => r = F10_defrostHeat u) (qE H0) nF) 0 0 nF := by
  refine Met.ofW (cc := cX10_defrostHeat) (maxL := 1) (ret := (some .long)) (by decide) rfl ?_
  intro p e s m args below meth c s₁ B hml hv
  obtain ⟨rfl, rfl, hP, hQ⟩ := hv
  have hx := B.exec
  have hb := B.bytes
  have hr := B.returns
  have hts := atoms_spec (ws := wsX10_defrostHeat) B.pre
  have hown : s.vm.findClass RX10 = some m.cls := findClass_of_methodNamed B.named
  have hlocks := B.notSynchronized
  have hS : va_S nF s.heap s.heap [] := va_S.rf
  have hl := lv_entry ([.ref b0]) (n := 1) (Nat.le_of_ble_eq_true rfl)
  rw [lg_entry_eq]
  generalize (lg_sl ([.ref b0]) ++ List.replicate (1 - (lg_sl ([.ref b0])).length) Slot.unset).toArray = ls at hl ⊢
  have hl : lv_has ls 1 [(0, .ref b0)] := hl
  have hinX0 : ∀ w ∈ wsX00, w ∈ wsX10_defrostHeat := fun _ h => List.mem_cons_of_mem _ (List.mem_append_right _ h)
  have hinX5 : ∀ w ∈ wsX50, w ∈ wsX10_defrostHeat := fun _ h => List.mem_cons_of_mem _ (List.mem_append_left _ (List.mem_append_right _ h))
  have hinX10 : ∀ w ∈ wsX100, w ∈ wsX10_defrostHeat := fun _ h => List.mem_cons_of_mem _ (List.mem_append_left _ (List.mem_append_left _ (List.mem_append_right _ h)))
  refine lv_aload_n hx hb dX10_defrostHeat_0 rfl (lv_at hl 0 rfl) ?_
  refine va_get (D := D) (ci := 10) (v := .ref (a4 0)) (C := RX10) (T := TX10) (N := 4) hx hb hts hinX10 hown hQ.1 hP 0 rfl rfl 0 (by decide) (hts (.fieldLink RX10 10 "HeatPumpPlant" "plant" "LHeatPumpPlant$Plant;") (List.mem_of_getElem? (i := 1) rfl)) (fun _ h9 => h9) rfl dX10_defrostHeat_1 ?_
  refine va_get (D := D) (ci := 5) (v := .ref (a4 14)) (C := RX5) (T := TX5) (N := 8) hx hb hts hinX5 hown hQ.1 hP 1 rfl rfl 5 (by decide) (hts (.fieldLink RX10 154 "HeatPumpPlant$Plant" "accounts" "LHeatPumpPlant$Accounts;") (List.mem_of_getElem? (i := 2) rfl)) (fun _ h9 => h9) rfl dX10_defrostHeat_4 ?_
  refine va_get (D := D) (ci := 0) (v := .long ((pA u).2.2.2.2.2.1)) (C := RX0) (T := TX0) (N := 11) hx hb hts hinX0 hown hQ.1 hP 15 rfl rfl 5 (by decide) (hts (.fieldLink RX10 194 "HeatPumpPlant$Accounts" "defrostHeat" "J") (List.mem_of_getElem? (i := 3) rfl)) (fun _ h9 => h9) rfl dX10_defrostHeat_7 ?_
  exact W.lret (v := (pA u).2.2.2.2.2.1) hx hb hr (fun t ht hW => ⟨⟨(pA u).2.2.2.2.2.1, (), rfl, ((rfl).symm), ht⟩, hS.F ht⟩) hS.2.2 dX10_defrostHeat_10
def F10_drawn (u : PlS) : Int64 := ((pA u).2.2.2.2.2.2.1)
set_option maxHeartbeats 4000000 in
set_option maxRecDepth 100000 in
theorem m10_drawn (l : Launch) (D : va_G) (cI cL cP : ClassId) (b0 : Nat) (b1 : Nat) (b2 : Nat) (b3 : Nat) (a4 : Nat → Nat) (u : PlS) (H0 : Heap) : Met l yX10_drawn wsX10_drawn ({ frames := 0, cells := 0, slots := 0, locals := 0 }) (va_Pc [.ref b0] (pR D cI cL cP H0 (wF [gX b0 (a4 0) b1 b2 b3, gO (a4 0) (a4 1) (a4 3) (a4 7) (a4 10) (a4 12) (a4 14) (a4 16) (pT u), gS cI (a4 1) (a4 2) (pS u), gWe cI (a4 3) (a4 4) (a4 5) (a4 6) (pW u), gK cI (a4 7) (a4 8) (a4 9) (pK u), gB cL (a4 10) (a4 11) (pB u), gP cI (a4 12) (a4 13) (pP u), gA cI (a4 14) (a4 15) (pA u), gC (a4 16) (pC u)]))) (va_Ql (fun (r : Int64) (_ : Unit) => r = F10_drawn u) (qE H0) nF) 0 0 nF := by
  refine Met.ofW (cc := cX10_drawn) (maxL := 1) (ret := (some .long)) (by decide) rfl ?_
  intro p e s m args below meth c s₁ B hml hv
  obtain ⟨rfl, rfl, hP, hQ⟩ := hv
  have hx := B.exec
  have hb := B.bytes
  have hr := B.returns
  have hts := atoms_spec (ws := wsX10_drawn) B.pre
  have hown : s.vm.findClass RX10 = some m.cls := findClass_of_methodNamed B.named
  have hlocks := B.notSynchronized
  have hS : va_S nF s.heap s.heap [] := va_S.rf
  have hl := lv_entry ([.ref b0]) (n := 1) (Nat.le_of_ble_eq_true rfl)
  rw [lg_entry_eq]
  generalize (lg_sl ([.ref b0]) ++ List.replicate (1 - (lg_sl ([.ref b0])).length) Slot.unset).toArray = ls at hl ⊢
  have hl : lv_has ls 1 [(0, .ref b0)] := hl
  have hinX0 : ∀ w ∈ wsX00, w ∈ wsX10_drawn := fun _ h => List.mem_cons_of_mem _ (List.mem_append_right _ h)
  have hinX5 : ∀ w ∈ wsX50, w ∈ wsX10_drawn := fun _ h => List.mem_cons_of_mem _ (List.mem_append_left _ (List.mem_append_right _ h))
  have hinX10 : ∀ w ∈ wsX100, w ∈ wsX10_drawn := fun _ h => List.mem_cons_of_mem _ (List.mem_append_left _ (List.mem_append_left _ (List.mem_append_right _ h)))
  refine lv_aload_n hx hb dX10_drawn_0 rfl (lv_at hl 0 rfl) ?_
  refine va_get (D := D) (ci := 10) (v := .ref (a4 0)) (C := RX10) (T := TX10) (N := 4) hx hb hts hinX10 hown hQ.1 hP 0 rfl rfl 0 (by decide) (hts (.fieldLink RX10 10 "HeatPumpPlant" "plant" "LHeatPumpPlant$Plant;") (List.mem_of_getElem? (i := 1) rfl)) (fun _ h9 => h9) rfl dX10_drawn_1 ?_
  refine va_get (D := D) (ci := 5) (v := .ref (a4 14)) (C := RX5) (T := TX5) (N := 8) hx hb hts hinX5 hown hQ.1 hP 1 rfl rfl 5 (by decide) (hts (.fieldLink RX10 154 "HeatPumpPlant$Plant" "accounts" "LHeatPumpPlant$Accounts;") (List.mem_of_getElem? (i := 2) rfl)) (fun _ h9 => h9) rfl dX10_drawn_4 ?_
  refine va_get (D := D) (ci := 0) (v := .long ((pA u).2.2.2.2.2.2.1)) (C := RX0) (T := TX0) (N := 11) hx hb hts hinX0 hown hQ.1 hP 15 rfl rfl 6 (by decide) (hts (.fieldLink RX10 197 "HeatPumpPlant$Accounts" "drawn" "J") (List.mem_of_getElem? (i := 3) rfl)) (fun _ h9 => h9) rfl dX10_drawn_7 ?_
  exact W.lret (v := (pA u).2.2.2.2.2.2.1) hx hb hr (fun t ht hW => ⟨⟨(pA u).2.2.2.2.2.2.1, (), rfl, ((rfl).symm), ht⟩, hS.F ht⟩) hS.2.2 dX10_drawn_10
def F10_unmet (u : PlS) : Int64 := ((pA u).2.2.2.2.2.2.2.1)
set_option maxHeartbeats 4000000 in
set_option maxRecDepth 100000 in
theorem m10_unmet (l : Launch) (D : va_G) (cI cL cP : ClassId) (b0 : Nat) (b1 : Nat) (b2 : Nat) (b3 : Nat) (a4 : Nat → Nat) (u : PlS) (H0 : Heap) : Met l yX10_unmet wsX10_unmet ({ frames := 0, cells := 0, slots := 0, locals := 0 }) (va_Pc [.ref b0] (pR D cI cL cP H0 (wF [gX b0 (a4 0) b1 b2 b3, gO (a4 0) (a4 1) (a4 3) (a4 7) (a4 10) (a4 12) (a4 14) (a4 16) (pT u), gS cI (a4 1) (a4 2) (pS u), gWe cI (a4 3) (a4 4) (a4 5) (a4 6) (pW u), gK cI (a4 7) (a4 8) (a4 9) (pK u), gB cL (a4 10) (a4 11) (pB u), gP cI (a4 12) (a4 13) (pP u), gA cI (a4 14) (a4 15) (pA u), gC (a4 16) (pC u)]))) (va_Ql (fun (r : Int64) (_ : Unit) => r = F10_unmet u) (qE H0) nF) 0 0 nF := by
  refine Met.ofW (cc := cX10_unmet) (maxL := 1) (ret := (some .long)) (by decide) rfl ?_
  intro p e s m args below meth c s₁ B hml hv
  obtain ⟨rfl, rfl, hP, hQ⟩ := hv
  have hx := B.exec
  have hb := B.bytes
  have hr := B.returns
  have hts := atoms_spec (ws := wsX10_unmet) B.pre
  have hown : s.vm.findClass RX10 = some m.cls := findClass_of_methodNamed B.named
  have hlocks := B.notSynchronized
  have hS : va_S nF s.heap s.heap [] := va_S.rf
  have hl := lv_entry ([.ref b0]) (n := 1) (Nat.le_of_ble_eq_true rfl)
  rw [lg_entry_eq]
  generalize (lg_sl ([.ref b0]) ++ List.replicate (1 - (lg_sl ([.ref b0])).length) Slot.unset).toArray = ls at hl ⊢
  have hl : lv_has ls 1 [(0, .ref b0)] := hl
  have hinX0 : ∀ w ∈ wsX00, w ∈ wsX10_unmet := fun _ h => List.mem_cons_of_mem _ (List.mem_append_right _ h)
  have hinX5 : ∀ w ∈ wsX50, w ∈ wsX10_unmet := fun _ h => List.mem_cons_of_mem _ (List.mem_append_left _ (List.mem_append_right _ h))
  have hinX10 : ∀ w ∈ wsX100, w ∈ wsX10_unmet := fun _ h => List.mem_cons_of_mem _ (List.mem_append_left _ (List.mem_append_left _ (List.mem_append_right _ h)))
  refine lv_aload_n hx hb dX10_unmet_0 rfl (lv_at hl 0 rfl) ?_
  refine va_get (D := D) (ci := 10) (v := .ref (a4 0)) (C := RX10) (T := TX10) (N := 4) hx hb hts hinX10 hown hQ.1 hP 0 rfl rfl 0 (by decide) (hts (.fieldLink RX10 10 "HeatPumpPlant" "plant" "LHeatPumpPlant$Plant;") (List.mem_of_getElem? (i := 1) rfl)) (fun _ h9 => h9) rfl dX10_unmet_1 ?_
  refine va_get (D := D) (ci := 5) (v := .ref (a4 14)) (C := RX5) (T := TX5) (N := 8) hx hb hts hinX5 hown hQ.1 hP 1 rfl rfl 5 (by decide) (hts (.fieldLink RX10 154 "HeatPumpPlant$Plant" "accounts" "LHeatPumpPlant$Accounts;") (List.mem_of_getElem? (i := 2) rfl)) (fun _ h9 => h9) rfl dX10_unmet_4 ?_
  refine va_get (D := D) (ci := 0) (v := .long ((pA u).2.2.2.2.2.2.2.1)) (C := RX0) (T := TX0) (N := 11) hx hb hts hinX0 hown hQ.1 hP 15 rfl rfl 7 (by decide) (hts (.fieldLink RX10 200 "HeatPumpPlant$Accounts" "unmet" "J") (List.mem_of_getElem? (i := 3) rfl)) (fun _ h9 => h9) rfl dX10_unmet_7 ?_
  exact W.lret (v := (pA u).2.2.2.2.2.2.2.1) hx hb hr (fun t ht hW => ⟨⟨(pA u).2.2.2.2.2.2.2.1, (), rfl, ((rfl).symm), ht⟩, hS.F ht⟩) hS.2.2 dX10_unmet_10
def F10_lost (u : PlS) : Int64 := ((pA u).2.2.2.2.2.2.2.2.1)
set_option maxHeartbeats 4000000 in
set_option maxRecDepth 100000 in
theorem m10_lost (l : Launch) (D : va_G) (cI cL cP : ClassId) (b0 : Nat) (b1 : Nat) (b2 : Nat) (b3 : Nat) (a4 : Nat → Nat) (u : PlS) (H0 : Heap) : Met l yX10_lost wsX10_lost ({ frames := 0, cells := 0, slots := 0, locals := 0 }) (va_Pc [.ref b0] (pR D cI cL cP H0 (wF [gX b0 (a4 0) b1 b2 b3, gO (a4 0) (a4 1) (a4 3) (a4 7) (a4 10) (a4 12) (a4 14) (a4 16) (pT u), gS cI (a4 1) (a4 2) (pS u), gWe cI (a4 3) (a4 4) (a4 5) (a4 6) (pW u), gK cI (a4 7) (a4 8) (a4 9) (pK u), gB cL (a4 10) (a4 11) (pB u), gP cI (a4 12) (a4 13) (pP u), gA cI (a4 14) (a4 15) (pA u), gC (a4 16) (pC u)]))) (va_Ql (fun (r : Int64) (_ : Unit) => r = F10_lost u) (qE H0) nF) 0 0 nF := by
  refine Met.ofW (cc := cX10_lost) (maxL := 1) (ret := (some .long)) (by decide) rfl ?_
  intro p e s m args below meth c s₁ B hml hv
  obtain ⟨rfl, rfl, hP, hQ⟩ := hv
  have hx := B.exec
  have hb := B.bytes
  have hr := B.returns
  have hts := atoms_spec (ws := wsX10_lost) B.pre
  have hown : s.vm.findClass RX10 = some m.cls := findClass_of_methodNamed B.named
  have hlocks := B.notSynchronized
  have hS : va_S nF s.heap s.heap [] := va_S.rf
  have hl := lv_entry ([.ref b0]) (n := 1) (Nat.le_of_ble_eq_true rfl)
  rw [lg_entry_eq]
  generalize (lg_sl ([.ref b0]) ++ List.replicate (1 - (lg_sl ([.ref b0])).length) Slot.unset).toArray = ls at hl ⊢
  have hl : lv_has ls 1 [(0, .ref b0)] := hl
  have hinX0 : ∀ w ∈ wsX00, w ∈ wsX10_lost := fun _ h => List.mem_cons_of_mem _ (List.mem_append_right _ h)
  have hinX5 : ∀ w ∈ wsX50, w ∈ wsX10_lost := fun _ h => List.mem_cons_of_mem _ (List.mem_append_left _ (List.mem_append_right _ h))
  have hinX10 : ∀ w ∈ wsX100, w ∈ wsX10_lost := fun _ h => List.mem_cons_of_mem _ (List.mem_append_left _ (List.mem_append_left _ (List.mem_append_right _ h)))
  refine lv_aload_n hx hb dX10_lost_0 rfl (lv_at hl 0 rfl) ?_
  refine va_get (D := D) (ci := 10) (v := .ref (a4 0)) (C := RX10) (T := TX10) (N := 4) hx hb hts hinX10 hown hQ.1 hP 0 rfl rfl 0 (by decide) (hts (.fieldLink RX10 10 "HeatPumpPlant" "plant" "LHeatPumpPlant$Plant;") (List.mem_of_getElem? (i := 1) rfl)) (fun _ h9 => h9) rfl dX10_lost_1 ?_
  refine va_get (D := D) (ci := 5) (v := .ref (a4 14)) (C := RX5) (T := TX5) (N := 8) hx hb hts hinX5 hown hQ.1 hP 1 rfl rfl 5 (by decide) (hts (.fieldLink RX10 154 "HeatPumpPlant$Plant" "accounts" "LHeatPumpPlant$Accounts;") (List.mem_of_getElem? (i := 2) rfl)) (fun _ h9 => h9) rfl dX10_lost_4 ?_
  refine va_get (D := D) (ci := 0) (v := .long ((pA u).2.2.2.2.2.2.2.2.1)) (C := RX0) (T := TX0) (N := 11) hx hb hts hinX0 hown hQ.1 hP 15 rfl rfl 8 (by decide) (hts (.fieldLink RX10 203 "HeatPumpPlant$Accounts" "lost" "J") (List.mem_of_getElem? (i := 3) rfl)) (fun _ h9 => h9) rfl dX10_lost_7 ?_
  exact W.lret (v := (pA u).2.2.2.2.2.2.2.2.1) hx hb hr (fun t ht hW => ⟨⟨(pA u).2.2.2.2.2.2.2.2.1, (), rfl, ((rfl).symm), ht⟩, hS.F ht⟩) hS.2.2 dX10_lost_10
def F10_electricity (u : PlS) : Int64 := ((pA u).2.2.2.2.2.2.2.2.2.1)
set_option maxHeartbeats 4000000 in
set_option maxRecDepth 100000 in
theorem m10_electricity (l : Launch) (D : va_G) (cI cL cP : ClassId) (b0 : Nat) (b1 : Nat) (b2 : Nat) (b3 : Nat) (a4 : Nat → Nat) (u : PlS) (H0 : Heap) : Met l yX10_electricity wsX10_electricity ({ frames := 0, cells := 0, slots := 0, locals := 0 }) (va_Pc [.ref b0] (pR D cI cL cP H0 (wF [gX b0 (a4 0) b1 b2 b3, gO (a4 0) (a4 1) (a4 3) (a4 7) (a4 10) (a4 12) (a4 14) (a4 16) (pT u), gS cI (a4 1) (a4 2) (pS u), gWe cI (a4 3) (a4 4) (a4 5) (a4 6) (pW u), gK cI (a4 7) (a4 8) (a4 9) (pK u), gB cL (a4 10) (a4 11) (pB u), gP cI (a4 12) (a4 13) (pP u), gA cI (a4 14) (a4 15) (pA u), gC (a4 16) (pC u)]))) (va_Ql (fun (r : Int64) (_ : Unit) => r = F10_electricity u) (qE H0) nF) 0 0 nF := by
  refine Met.ofW (cc := cX10_electricity) (maxL := 1) (ret := (some .long)) (by decide) rfl ?_
  intro p e s m args below meth c s₁ B hml hv
  obtain ⟨rfl, rfl, hP, hQ⟩ := hv
  have hx := B.exec
  have hb := B.bytes
  have hr := B.returns
  have hts := atoms_spec (ws := wsX10_electricity) B.pre
  have hown : s.vm.findClass RX10 = some m.cls := findClass_of_methodNamed B.named
  have hlocks := B.notSynchronized
  have hS : va_S nF s.heap s.heap [] := va_S.rf
  have hl := lv_entry ([.ref b0]) (n := 1) (Nat.le_of_ble_eq_true rfl)
  rw [lg_entry_eq]
  generalize (lg_sl ([.ref b0]) ++ List.replicate (1 - (lg_sl ([.ref b0])).length) Slot.unset).toArray = ls at hl ⊢
  have hl : lv_has ls 1 [(0, .ref b0)] := hl
  have hinX0 : ∀ w ∈ wsX00, w ∈ wsX10_electricity := fun _ h => List.mem_cons_of_mem _ (List.mem_append_right _ h)
  have hinX5 : ∀ w ∈ wsX50, w ∈ wsX10_electricity := fun _ h => List.mem_cons_of_mem _ (List.mem_append_left _ (List.mem_append_right _ h))
  have hinX10 : ∀ w ∈ wsX100, w ∈ wsX10_electricity := fun _ h => List.mem_cons_of_mem _ (List.mem_append_left _ (List.mem_append_left _ (List.mem_append_right _ h)))
  refine lv_aload_n hx hb dX10_electricity_0 rfl (lv_at hl 0 rfl) ?_
  refine va_get (D := D) (ci := 10) (v := .ref (a4 0)) (C := RX10) (T := TX10) (N := 4) hx hb hts hinX10 hown hQ.1 hP 0 rfl rfl 0 (by decide) (hts (.fieldLink RX10 10 "HeatPumpPlant" "plant" "LHeatPumpPlant$Plant;") (List.mem_of_getElem? (i := 1) rfl)) (fun _ h9 => h9) rfl dX10_electricity_1 ?_
  refine va_get (D := D) (ci := 5) (v := .ref (a4 14)) (C := RX5) (T := TX5) (N := 8) hx hb hts hinX5 hown hQ.1 hP 1 rfl rfl 5 (by decide) (hts (.fieldLink RX10 154 "HeatPumpPlant$Plant" "accounts" "LHeatPumpPlant$Accounts;") (List.mem_of_getElem? (i := 2) rfl)) (fun _ h9 => h9) rfl dX10_electricity_4 ?_
  refine va_get (D := D) (ci := 0) (v := .long ((pA u).2.2.2.2.2.2.2.2.2.1)) (C := RX0) (T := TX0) (N := 11) hx hb hts hinX0 hown hQ.1 hP 15 rfl rfl 9 (by decide) (hts (.fieldLink RX10 206 "HeatPumpPlant$Accounts" "electricity" "J") (List.mem_of_getElem? (i := 3) rfl)) (fun _ h9 => h9) rfl dX10_electricity_7 ?_
  exact W.lret (v := (pA u).2.2.2.2.2.2.2.2.2.1) hx hb hr (fun t ht hW => ⟨⟨(pA u).2.2.2.2.2.2.2.2.2.1, (), rfl, ((rfl).symm), ht⟩, hS.F ht⟩) hS.2.2 dX10_electricity_10
def F10_cost (u : PlS) : Int64 := ((pA u).2.2.2.2.2.2.2.2.2.2)
set_option maxHeartbeats 4000000 in
set_option maxRecDepth 100000 in
theorem m10_cost (l : Launch) (D : va_G) (cI cL cP : ClassId) (b0 : Nat) (b1 : Nat) (b2 : Nat) (b3 : Nat) (a4 : Nat → Nat) (u : PlS) (H0 : Heap) : Met l yX10_cost wsX10_cost ({ frames := 0, cells := 0, slots := 0, locals := 0 }) (va_Pc [.ref b0] (pR D cI cL cP H0 (wF [gX b0 (a4 0) b1 b2 b3, gO (a4 0) (a4 1) (a4 3) (a4 7) (a4 10) (a4 12) (a4 14) (a4 16) (pT u), gS cI (a4 1) (a4 2) (pS u), gWe cI (a4 3) (a4 4) (a4 5) (a4 6) (pW u), gK cI (a4 7) (a4 8) (a4 9) (pK u), gB cL (a4 10) (a4 11) (pB u), gP cI (a4 12) (a4 13) (pP u), gA cI (a4 14) (a4 15) (pA u), gC (a4 16) (pC u)]))) (va_Ql (fun (r : Int64) (_ : Unit) => r = F10_cost u) (qE H0) nF) 0 0 nF := by
  refine Met.ofW (cc := cX10_cost) (maxL := 1) (ret := (some .long)) (by decide) rfl ?_
  intro p e s m args below meth c s₁ B hml hv
  obtain ⟨rfl, rfl, hP, hQ⟩ := hv
  have hx := B.exec
  have hb := B.bytes
  have hr := B.returns
  have hts := atoms_spec (ws := wsX10_cost) B.pre
  have hown : s.vm.findClass RX10 = some m.cls := findClass_of_methodNamed B.named
  have hlocks := B.notSynchronized
  have hS : va_S nF s.heap s.heap [] := va_S.rf
  have hl := lv_entry ([.ref b0]) (n := 1) (Nat.le_of_ble_eq_true rfl)
  rw [lg_entry_eq]
  generalize (lg_sl ([.ref b0]) ++ List.replicate (1 - (lg_sl ([.ref b0])).length) Slot.unset).toArray = ls at hl ⊢
  have hl : lv_has ls 1 [(0, .ref b0)] := hl
  have hinX0 : ∀ w ∈ wsX00, w ∈ wsX10_cost := fun _ h => List.mem_cons_of_mem _ (List.mem_append_right _ h)
  have hinX5 : ∀ w ∈ wsX50, w ∈ wsX10_cost := fun _ h => List.mem_cons_of_mem _ (List.mem_append_left _ (List.mem_append_right _ h))
  have hinX10 : ∀ w ∈ wsX100, w ∈ wsX10_cost := fun _ h => List.mem_cons_of_mem _ (List.mem_append_left _ (List.mem_append_left _ (List.mem_append_right _ h)))
  refine lv_aload_n hx hb dX10_cost_0 rfl (lv_at hl 0 rfl) ?_
  refine va_get (D := D) (ci := 10) (v := .ref (a4 0)) (C := RX10) (T := TX10) (N := 4) hx hb hts hinX10 hown hQ.1 hP 0 rfl rfl 0 (by decide) (hts (.fieldLink RX10 10 "HeatPumpPlant" "plant" "LHeatPumpPlant$Plant;") (List.mem_of_getElem? (i := 1) rfl)) (fun _ h9 => h9) rfl dX10_cost_1 ?_
  refine va_get (D := D) (ci := 5) (v := .ref (a4 14)) (C := RX5) (T := TX5) (N := 8) hx hb hts hinX5 hown hQ.1 hP 1 rfl rfl 5 (by decide) (hts (.fieldLink RX10 154 "HeatPumpPlant$Plant" "accounts" "LHeatPumpPlant$Accounts;") (List.mem_of_getElem? (i := 2) rfl)) (fun _ h9 => h9) rfl dX10_cost_4 ?_
  refine va_get (D := D) (ci := 0) (v := .long ((pA u).2.2.2.2.2.2.2.2.2.2)) (C := RX0) (T := TX0) (N := 11) hx hb hts hinX0 hown hQ.1 hP 15 rfl rfl 10 (by decide) (hts (.fieldLink RX10 209 "HeatPumpPlant$Accounts" "cost" "J") (List.mem_of_getElem? (i := 3) rfl)) (fun _ h9 => h9) rfl dX10_cost_7 ?_
  exact W.lret (v := (pA u).2.2.2.2.2.2.2.2.2.2) hx hb hr (fun t ht hW => ⟨⟨(pA u).2.2.2.2.2.2.2.2.2.2, (), rfl, ((rfl).symm), ht⟩, hS.F ht⟩) hS.2.2 dX10_cost_10
