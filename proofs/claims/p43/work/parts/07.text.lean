def F9_codeHere (x0 : ST) : Int32 := (if x0.2.1 ≤ x0.2.2.1 then (0 : Int32) else (F10_elementOr 100 x0.1 x0.2.2.1 (0 : Int32)))
set_option maxHeartbeats 4000000 in
set_option maxRecDepth 100000 in
theorem m9_codeHere (l : Launch) (D : va_G) (cI cL cP : ClassId) (b0 : Nat) (b1 : Nat) (x0 : ST) (H0 : Heap) : Met l yX9_codeHere wsX9_codeHere ({ frames := 1, cells := 0, slots := 0, locals := 22 }) (va_Pc [.ref b0] (pR D cI cL cP H0 (wF [gT cI b0 b1 x0]))) (va_Qi (fun (r : Int32) (_ : Unit) => r = F9_codeHere x0) (qE H0) nF) 0 0 nF := by
  refine Met.ofW (cc := cX9_codeHere) (maxL := 1) (ret := (some .int)) (by decide) rfl ?_
  intro p e s m args below meth c s₁ B hml hv
  obtain ⟨rfl, rfl, hP, hQ⟩ := hv
  have hx := B.exec
  have hb := B.bytes
  have hr := B.returns
  have hts := atoms_spec (ws := wsX9_codeHere) B.pre
  have hown : s.vm.findClass RX9 = some m.cls := findClass_of_methodNamed B.named
  have hlocks := B.notSynchronized
  have hS : va_S nF s.heap s.heap [] := va_S.rf
  have hl := lv_entry ([.ref b0]) (n := 1) (Nat.le_of_ble_eq_true rfl)
  rw [lg_entry_eq]
  generalize (lg_sl ([.ref b0]) ++ List.replicate (1 - (lg_sl ([.ref b0])).length) Slot.unset).toArray = ls at hl ⊢
  have hl : lv_has ls 1 [(0, .ref b0)] := hl
  have hinX9 : ∀ w ∈ wsX90, w ∈ wsX9_codeHere := fun _ h => List.mem_cons_of_mem _ (List.mem_append_right _ h)
  refine lv_aload_n hx hb dX9_codeHere_0 rfl (lv_at hl 0 rfl) ?_
  refine va_get (D := D) (ci := 9) (v := .int x0.2.2.1) (C := RX9) (T := TX9) (N := 7) hx hb hts hinX9 hown hQ.1 hP 0 rfl rfl 2 (by decide) (hts (.fieldLink RX9 23 "HeatPumpPlant$WeatherSheet" "position" "I") (List.mem_of_getElem? (i := 1) rfl)) (fun _ h9 => h9) rfl dX9_codeHere_1 ?_
  refine lv_aload_n hx hb dX9_codeHere_4 rfl (lv_at hl 0 rfl) ?_
  refine va_get (D := D) (ci := 9) (v := .int x0.2.1) (C := RX9) (T := TX9) (N := 7) hx hb hts hinX9 hown hQ.1 hP 0 rfl rfl 1 (by decide) (hts (.fieldLink RX9 15 "HeatPumpPlant$WeatherSheet" "length" "I") (List.mem_of_getElem? (i := 2) rfl)) (fun _ h9 => h9) rfl dX9_codeHere_5 ?_
  refine lv_icmp_ge (tgt := 26) hx hb dX9_codeHere_8 (by decide) (fun c1 => ?_) (fun c1 => ?_)
  · have c1 : x0.2.1 ≤ x0.2.2.1 := c1
    refine lv_iconst (v := (0 : Int32)) hx hb dX9_codeHere_26 (by decide) ?_
    exact W.iret (v := (0 : Int32)) hx hb hr (fun t ht hW => ⟨⟨(0 : Int32), (), rfl, ((Eq.trans (if_pos c1) (rfl)).symm), ht⟩, hS.F ht⟩) hS.2.2 dX9_codeHere_27
  · have c1 : ¬ (x0.2.1 ≤ x0.2.2.1) := c1
    refine lv_aload_n hx hb dX9_codeHere_11 rfl (lv_at hl 0 rfl) ?_
    refine va_get (D := D) (ci := 9) (v := .ref b1) (C := RX9) (T := TX9) (N := 7) hx hb hts hinX9 hown hQ.1 hP 0 rfl rfl 0 (by decide) (hts (.fieldLink RX9 11 "HeatPumpPlant$WeatherSheet" "codes" "[I") (List.mem_of_getElem? (i := 3) rfl)) (fun _ h9 => h9) rfl dX9_codeHere_12 ?_
    refine lv_aload_n hx hb dX9_codeHere_15 rfl (lv_at hl 0 rfl) ?_
    refine va_get (D := D) (ci := 9) (v := .int x0.2.2.1) (C := RX9) (T := TX9) (N := 7) hx hb hts hinX9 hown hQ.1 hP 0 rfl rfl 2 (by decide) (hts (.fieldLink RX9 23 "HeatPumpPlant$WeatherSheet" "position" "I") (List.mem_of_getElem? (i := 1) rfl)) (fun _ h9 => h9) rfl dX9_codeHere_16 ?_
    refine lv_iconst (v := (0 : Int32)) hx hb dX9_codeHere_19 (by decide) ?_
    have hPc : va_P D vwCl (wF [gI cI b1 100 x0.1]) s.heap := hP.sub [1] rfl
    refine c_Ri (va_runSN (As := [.ref b1, .int x0.2.2.1, .int (0 : Int32)]) (rest := []) ⟨hx, hb, hml, hown, hts⟩ (m10_elementOr l D cI cL cP b1 100 x0.1 x0.2.2.1 (0 : Int32) (by decide) s.heap) ⟨va_cnB 3 hts gX9_codeHere_X10_elementOr_n74 rfl rfl rfl (hQ.2 (RX9, 74, yX10_elementOr, "HeatPumpPlant") (List.mem_of_getElem? (i := 21) rfl)) (hts (.initialized RX10) (List.mem_of_getElem? (i := 5) rfl)) (by decide +kernel) ⟨Nat.le_of_ble_eq_true rfl, Nat.le_of_ble_eq_true rfl⟩, (hts (.static yX10_elementOr) (List.mem_of_getElem? (i := 4) rfl)), trivial⟩ (preR_S hQ hPc) rfl rfl hl.1 rfl (lv_room (Nat.le_of_ble_eq_true rfl)) dX9_codeHere_20 ⟨Nat.le_of_ble_eq_true rfl, Nat.le_of_ble_eq_true rfl⟩) hS (fun locs hS => ?_)
    refine lv_goto (tgt := 27) hx hb dX9_codeHere_23 (by decide) ?_
    exact W.iret (v := (F10_elementOr 100 x0.1 x0.2.2.1 (0 : Int32))) hx hb hr (fun t ht hW => ⟨⟨(F10_elementOr 100 x0.1 x0.2.2.1 (0 : Int32)), (), rfl, ((Eq.trans (if_neg c1) (rfl)).symm), ht⟩, hS.F ht⟩) hS.2.2 dX9_codeHere_27
def F9_accept (x0 : ST) (p1 : Int32) : Bool × ST := (if (F9_codeHere x0) = p1 then (true, (x0.1, x0.2.1, (x0.2.2.1 + (1 : Int32)), x0.2.2.2.1, x0.2.2.2.2.1, x0.2.2.2.2.2.1, x0.2.2.2.2.2.2)) else (false, x0))
set_option maxHeartbeats 4000000 in
set_option maxRecDepth 100000 in
theorem m9_accept (l : Launch) (D : va_G) (cI cL cP : ClassId) (b0 : Nat) (b1 : Nat) (x0 : ST) (p1 : Int32) (sz : Nat) : Met l yX9_accept wsX9_accept ({ frames := 2, cells := 0, slots := 0, locals := 42 }) (va_Pc [.ref b0, .int p1] (pM D cI cL cP sz (wF [gT cI b0 b1 x0]))) (va_Qi (fun (r : Int32) (w : ST) => (r, w) = (bI (F9_accept x0 p1).1, (F9_accept x0 p1).2)) (qW D (va_A (wF [gT cI b0 b1 x0]) sz) (fun w : ST => (wF [gT cI b0 b1 w]))) (va_A (wF [gT cI b0 b1 x0]) sz)) 0 0 (va_A (wF [gT cI b0 b1 x0]) sz) := by
  refine Met.ofW (cc := cX9_accept) (maxL := 2) (ret := (some .boolean)) (by decide) rfl ?_
  intro p e s m args below meth c s₁ B hml hv
  obtain ⟨rfl, hsz, hP, hQ, hD0⟩ := hv
  have hx := B.exec
  have hb := B.bytes
  have hr := B.returns
  have hts := atoms_spec (ws := wsX9_accept) B.pre
  have hown : s.vm.findClass RX9 = some m.cls := findClass_of_methodNamed B.named
  have hlocks := B.notSynchronized
  subst hsz
  have hD := hD0.self (sz := s.heap.size)
  generalize hAe : va_A (wF [gT cI b0 b1 x0]) s.heap.size = A at hD ⊢
  have hA : ∀ q : Nat, s.heap.size ≤ q → A q := fun q h => by rw [← hAe]; exact Or.inr h
  have hS : va_S A s.heap s.heap [] := va_S.rf
  have hP : va_P D vwCl (wF [gT cI b0 b1 x0]) s.heap := hP
  have hl := lv_entry ([.ref b0, .int p1]) (n := 2) (Nat.le_of_ble_eq_true rfl)
  rw [lg_entry_eq]
  generalize (lg_sl ([.ref b0, .int p1]) ++ List.replicate (2 - (lg_sl ([.ref b0, .int p1])).length) Slot.unset).toArray = ls at hl ⊢
  have hl : lv_has ls 2 [(0, .ref b0), (1, .int p1)] := hl
  have hinX9 : ∀ w ∈ wsX90, w ∈ wsX9_accept := fun _ h => List.mem_cons_of_mem _ (List.mem_append_right _ h)
  refine lv_aload_n hx hb dX9_accept_0 rfl (lv_at hl 0 rfl) ?_
  have hPc : va_P D vwCl (wF [gT cI b0 b1 x0]) s.heap := hP.sub [0, 1] rfl
  refine c_Ri (va_runV (As := []) (rest := []) ⟨hx, hb, hml, hown, hts⟩ (m9_codeHere l D cI cL cP b0 b1 x0 s.heap) (cwV 0 hts gX9_accept_X9_codeHere rfl rfl rfl (by decide +kernel) ⟨Nat.le_of_ble_eq_true rfl, Nat.le_of_ble_eq_true rfl⟩) (preR_V (q := (RX9, TX9, 7)) (q0 := 0) hQ hPc rfl rfl) rfl rfl hl.1 rfl (lv_room (Nat.le_of_ble_eq_true rfl)) dX9_accept_1 ⟨Nat.le_of_ble_eq_true rfl, Nat.le_of_ble_eq_true rfl⟩) hS (fun locs hS => ?_)
  refine lv_iload_n hx hb dX9_accept_4 rfl (lv_at hl 1 rfl) ?_
  refine lv_icmp_eq (tgt := 10) hx hb dX9_accept_5 (by decide) (fun c1 => ?_) (fun c1 => ?_)
  · have c1 : (F9_codeHere x0) = p1 := c1
    refine lv_aload_n hx hb dX9_accept_10 rfl (lv_at hl 0 rfl) ?_
    refine lv_dup hx hb dX9_accept_11 rfl ?_
    refine va_get (D := D) (ci := 9) (v := .int x0.2.2.1) (C := RX9) (T := TX9) (N := 7) hx hb hts hinX9 hown hQ.1 hP 0 rfl rfl 2 (by decide) (hts (.fieldLink RX9 23 "HeatPumpPlant$WeatherSheet" "position" "I") (List.mem_of_getElem? (i := 1) rfl)) (fun _ h9 => h9) rfl dX9_accept_12 ?_
    refine lv_iconst (v := (1 : Int32)) hx hb dX9_accept_15 (by decide) ?_
    refine lv_iadd hx hb dX9_accept_16 ?_
    refine va_put (D := D) (ci := 9) (v := .int (x0.2.2.1 + (1 : Int32))) (ty := .int) (C := RX9) (T := TX9) (N := 7) hx hb hts hinX9 tyX9 tyX9_ok nmX9 hown hQ.1 hP hD hS 0 rfl rfl 2 (by decide) (hts (.fieldLink RX9 23 "HeatPumpPlant$WeatherSheet" "position" "I") (List.mem_of_getElem? (i := 1) rfl)) (fun _ h9 => h9) rfl (by decide +kernel) rfl rfl (Nat.le_of_ble_eq_true rfl) dX9_accept_17 (fun H locs hP hD hS => ?_)
    have hP : va_P D vwCl (wF [gT cI b0 b1 (x0.1, x0.2.1, (x0.2.2.1 + (1 : Int32)), x0.2.2.2.1, x0.2.2.2.2.1, x0.2.2.2.2.2.1, x0.2.2.2.2.2.2)]) H := hP
    have hD : va_D A (wF [gT cI b0 b1 (x0.1, x0.2.1, (x0.2.2.1 + (1 : Int32)), x0.2.2.2.1, x0.2.2.2.2.1, x0.2.2.2.2.2.1, x0.2.2.2.2.2.2)]) := hD
    refine lv_iconst (v := (1 : Int32)) hx hb dX9_accept_20 (by decide) ?_
    exact W.zret (v := (1 : Int32)) (ty := .boolean) hx hb hr rfl (fun t ht hW => ⟨⟨(1 : Int32), (x0.1, x0.2.1, (x0.2.2.1 + (1 : Int32)), x0.2.2.2.1, x0.2.2.2.2.1, x0.2.2.2.2.2.1, x0.2.2.2.2.2.2), rfl, ((congrArg (fun q : Bool × ST => (bI q.1, q.2)) (show F9_accept x0 p1 = (true, (x0.1, x0.2.1, (x0.2.2.1 + (1 : Int32)), x0.2.2.2.1, x0.2.2.2.2.1, x0.2.2.2.2.2.1, x0.2.2.2.2.2.2)) from Eq.trans (if_pos c1) (rfl))).symm), by rw [ht]; exact hP, hD⟩, hS.F ht⟩) hS.2.2 dX9_accept_21
  · have c1 : ¬ ((F9_codeHere x0) = p1) := c1
    refine lv_iconst (v := (0 : Int32)) hx hb dX9_accept_8 (by decide) ?_
    exact W.zret (v := (0 : Int32)) (ty := .boolean) hx hb hr rfl (fun t ht hW => ⟨⟨(0 : Int32), x0, rfl, ((congrArg (fun q : Bool × ST => (bI q.1, q.2)) (show F9_accept x0 p1 = (false, x0) from Eq.trans (if_neg c1) (rfl))).symm), by rw [ht]; exact hP, hD⟩, hS.F ht⟩) hS.2.2 dX9_accept_9
def F9_readDigit (x0 : ST) (p1 : Int32) : Int32 × ST := (if ((F9_codeHere x0) - (48 : Int32)) < (0 : Int32) then ((-1 : Int32), x0) else (if ((F9_codeHere x0) - (48 : Int32)) ≤ p1 then (((F9_codeHere x0) - (48 : Int32)), (x0.1, x0.2.1, (x0.2.2.1 + (1 : Int32)), x0.2.2.2.1, x0.2.2.2.2.1, x0.2.2.2.2.2.1, x0.2.2.2.2.2.2)) else ((-1 : Int32), x0)))
set_option maxHeartbeats 4000000 in
set_option maxRecDepth 100000 in
theorem m9_readDigit (l : Launch) (D : va_G) (cI cL cP : ClassId) (b0 : Nat) (b1 : Nat) (x0 : ST) (p1 : Int32) (sz : Nat) : Met l yX9_readDigit wsX9_readDigit ({ frames := 2, cells := 0, slots := 0, locals := 42 }) (va_Pc [.ref b0, .int p1] (pM D cI cL cP sz (wF [gT cI b0 b1 x0]))) (va_Qi (fun (r : Int32) (w : ST) => (r, w) = F9_readDigit x0 p1) (qW D (va_A (wF [gT cI b0 b1 x0]) sz) (fun w : ST => (wF [gT cI b0 b1 w]))) (va_A (wF [gT cI b0 b1 x0]) sz)) 0 0 (va_A (wF [gT cI b0 b1 x0]) sz) := by
  refine Met.ofW (cc := cX9_readDigit) (maxL := 3) (ret := (some .int)) (by decide) rfl ?_
  intro p e s m args below meth c s₁ B hml hv
  obtain ⟨rfl, hsz, hP, hQ, hD0⟩ := hv
  have hx := B.exec
  have hb := B.bytes
  have hr := B.returns
  have hts := atoms_spec (ws := wsX9_readDigit) B.pre
  have hown : s.vm.findClass RX9 = some m.cls := findClass_of_methodNamed B.named
  have hlocks := B.notSynchronized
  subst hsz
  have hD := hD0.self (sz := s.heap.size)
  generalize hAe : va_A (wF [gT cI b0 b1 x0]) s.heap.size = A at hD ⊢
  have hA : ∀ q : Nat, s.heap.size ≤ q → A q := fun q h => by rw [← hAe]; exact Or.inr h
  have hS : va_S A s.heap s.heap [] := va_S.rf
  have hP : va_P D vwCl (wF [gT cI b0 b1 x0]) s.heap := hP
  have hl := lv_entry ([.ref b0, .int p1]) (n := 3) (Nat.le_of_ble_eq_true rfl)
  rw [lg_entry_eq]
  generalize (lg_sl ([.ref b0, .int p1]) ++ List.replicate (3 - (lg_sl ([.ref b0, .int p1])).length) Slot.unset).toArray = ls at hl ⊢
  have hl : lv_has ls 3 [(0, .ref b0), (1, .int p1)] := hl
  have hinX9 : ∀ w ∈ wsX90, w ∈ wsX9_readDigit := fun _ h => List.mem_cons_of_mem _ (List.mem_append_right _ h)
  refine lv_aload_n hx hb dX9_readDigit_0 rfl (lv_at hl 0 rfl) ?_
  have hPc : va_P D vwCl (wF [gT cI b0 b1 x0]) s.heap := hP.sub [0, 1] rfl
  refine c_Ri (va_runV (As := []) (rest := []) ⟨hx, hb, hml, hown, hts⟩ (m9_codeHere l D cI cL cP b0 b1 x0 s.heap) (cwV 0 hts gX9_readDigit_X9_codeHere rfl rfl rfl (by decide +kernel) ⟨Nat.le_of_ble_eq_true rfl, Nat.le_of_ble_eq_true rfl⟩) (preR_V (q := (RX9, TX9, 7)) (q0 := 0) hQ hPc rfl rfl) rfl rfl hl.1 rfl (lv_room (Nat.le_of_ble_eq_true rfl)) dX9_readDigit_1 ⟨Nat.le_of_ble_eq_true rfl, Nat.le_of_ble_eq_true rfl⟩) hS (fun locs hS => ?_)
  refine lv_bipush (v := (48 : Int32)) hx hb dX9_readDigit_4 (by decide) ?_
  refine lv_isub hx hb dX9_readDigit_6 ?_
  refine lv_istore_n (lv' := [(2, .int ((F9_codeHere x0) - (48 : Int32))), (0, .ref b0), (1, .int p1)]) hx hb dX9_readDigit_7 rfl hl (by decide) rfl (fun ls hl => ?_)
  refine lv_iload_n hx hb dX9_readDigit_8 rfl (lv_at hl 0 rfl) ?_
  refine lv_if_lt (tgt := 17) hx hb dX9_readDigit_9 (by decide) (fun c1 => ?_) (fun c1 => ?_)
  · have c1 : ((F9_codeHere x0) - (48 : Int32)) < (0 : Int32) := c1
    refine lv_iconst (v := (-1 : Int32)) hx hb dX9_readDigit_17 (by decide) ?_
    exact W.iret (v := (-1 : Int32)) hx hb hr (fun t ht hW => ⟨⟨(-1 : Int32), x0, rfl, ((Eq.trans (if_pos c1) (rfl)).symm), by rw [ht]; exact hP, hD⟩, hS.F ht⟩) hS.2.2 dX9_readDigit_18
  · have c1 : ¬ (((F9_codeHere x0) - (48 : Int32)) < (0 : Int32)) := c1
    refine lv_iload_n hx hb dX9_readDigit_12 rfl (lv_at hl 0 rfl) ?_
    refine lv_iload_n hx hb dX9_readDigit_13 rfl (lv_at hl 2 rfl) ?_
    refine lv_icmp_le (tgt := 19) hx hb dX9_readDigit_14 (by decide) (fun c2 => ?_) (fun c2 => ?_)
    · have c2 : ((F9_codeHere x0) - (48 : Int32)) ≤ p1 := c2
      refine lv_aload_n hx hb dX9_readDigit_19 rfl (lv_at hl 1 rfl) ?_
      refine lv_dup hx hb dX9_readDigit_20 rfl ?_
      refine va_get (D := D) (ci := 9) (v := .int x0.2.2.1) (C := RX9) (T := TX9) (N := 7) hx hb hts hinX9 hown hQ.1 hP 0 rfl rfl 2 (by decide) (hts (.fieldLink RX9 23 "HeatPumpPlant$WeatherSheet" "position" "I") (List.mem_of_getElem? (i := 1) rfl)) (fun _ h9 => h9) rfl dX9_readDigit_21 ?_
      refine lv_iconst (v := (1 : Int32)) hx hb dX9_readDigit_24 (by decide) ?_
      refine lv_iadd hx hb dX9_readDigit_25 ?_
      refine va_put (D := D) (ci := 9) (v := .int (x0.2.2.1 + (1 : Int32))) (ty := .int) (C := RX9) (T := TX9) (N := 7) hx hb hts hinX9 tyX9 tyX9_ok nmX9 hown hQ.1 hP hD hS 0 rfl rfl 2 (by decide) (hts (.fieldLink RX9 23 "HeatPumpPlant$WeatherSheet" "position" "I") (List.mem_of_getElem? (i := 1) rfl)) (fun _ h9 => h9) rfl (by decide +kernel) rfl rfl (Nat.le_of_ble_eq_true rfl) dX9_readDigit_26 (fun H locs hP hD hS => ?_)
      have hP : va_P D vwCl (wF [gT cI b0 b1 (x0.1, x0.2.1, (x0.2.2.1 + (1 : Int32)), x0.2.2.2.1, x0.2.2.2.2.1, x0.2.2.2.2.2.1, x0.2.2.2.2.2.2)]) H := hP
      have hD : va_D A (wF [gT cI b0 b1 (x0.1, x0.2.1, (x0.2.2.1 + (1 : Int32)), x0.2.2.2.1, x0.2.2.2.2.1, x0.2.2.2.2.2.1, x0.2.2.2.2.2.2)]) := hD
      refine lv_iload_n hx hb dX9_readDigit_29 rfl (lv_at hl 0 rfl) ?_
      exact W.iret (v := ((F9_codeHere x0) - (48 : Int32))) hx hb hr (fun t ht hW => ⟨⟨((F9_codeHere x0) - (48 : Int32)), (x0.1, x0.2.1, (x0.2.2.1 + (1 : Int32)), x0.2.2.2.1, x0.2.2.2.2.1, x0.2.2.2.2.2.1, x0.2.2.2.2.2.2), rfl, ((Eq.trans (if_neg c1) (Eq.trans (if_pos c2) (rfl))).symm), by rw [ht]; exact hP, hD⟩, hS.F ht⟩) hS.2.2 dX9_readDigit_30
    · have c2 : ¬ (((F9_codeHere x0) - (48 : Int32)) ≤ p1) := c2
      refine lv_iconst (v := (-1 : Int32)) hx hb dX9_readDigit_17 (by decide) ?_
      exact W.iret (v := (-1 : Int32)) hx hb hr (fun t ht hW => ⟨⟨(-1 : Int32), x0, rfl, ((Eq.trans (if_neg c1) (Eq.trans (if_neg c2) (rfl))).symm), by rw [ht]; exact hP, hD⟩, hS.F ht⟩) hS.2.2 dX9_readDigit_18
def K9_readHour_2 (x0 : ST) (z1 : Int32 × ST) (z4 : Int32 × ST) : Int32 × ST := (if (0 : Int32) ≤ z4.1 then ((((10 : Int32) * z1.1) + z4.1), z4.2) else (z1.1, z4.2))
def K9_readHour_3 (x0 : ST) (z1 : Int32 × ST) (z8 : Int32 × ST) : Int32 × ST := (if (0 : Int32) ≤ z8.1 then ((((10 : Int32) * z1.1) + z8.1), z8.2) else (z1.1, z8.2))
def K9_readHour_1 (x0 : ST) (z1 : Int32 × ST) : Int32 × ST := (if z1.1 = (1 : Int32) then (K9_readHour_2 x0 z1 (F9_readDigit z1.2 (if z1.1 = (1 : Int32) then (9 : Int32) else (3 : Int32)))) else (if z1.1 = (2 : Int32) then (K9_readHour_3 x0 z1 (F9_readDigit z1.2 (if z1.1 = (1 : Int32) then (9 : Int32) else (3 : Int32)))) else (z1.1, z1.2)))
def F9_readHour (x0 : ST) : Int32 × ST := (K9_readHour_1 x0 (F9_readDigit x0 (9 : Int32)))
set_option maxHeartbeats 4000000 in
set_option maxRecDepth 100000 in
theorem m9_readHour (l : Launch) (D : va_G) (cI cL cP : ClassId) (b0 : Nat) (b1 : Nat) (x0 : ST) (sz : Nat) : Met l yX9_readHour wsX9_readHour ({ frames := 3, cells := 0, slots := 0, locals := 64 }) (va_Pc [.ref b0] (pM D cI cL cP sz (wF [gT cI b0 b1 x0]))) (va_Qi (fun (r : Int32) (w : ST) => (r, w) = F9_readHour x0) (qW D (va_A (wF [gT cI b0 b1 x0]) sz) (fun w : ST => (wF [gT cI b0 b1 w]))) (va_A (wF [gT cI b0 b1 x0]) sz)) 0 0 (va_A (wF [gT cI b0 b1 x0]) sz) := by
  refine Met.ofW (cc := cX9_readHour) (maxL := 3) (ret := (some .int)) (by decide) rfl ?_
  intro p e s m args below meth c s₁ B hml hv
  obtain ⟨rfl, hsz, hP, hQ, hD0⟩ := hv
  have hx := B.exec
  have hb := B.bytes
  have hr := B.returns
  have hts := atoms_spec (ws := wsX9_readHour) B.pre
  have hown : s.vm.findClass RX9 = some m.cls := findClass_of_methodNamed B.named
  have hlocks := B.notSynchronized
  subst hsz
  have hD := hD0.self (sz := s.heap.size)
  generalize hAe : va_A (wF [gT cI b0 b1 x0]) s.heap.size = A at hD ⊢
  have hA : ∀ q : Nat, s.heap.size ≤ q → A q := fun q h => by rw [← hAe]; exact Or.inr h
  have hS : va_S A s.heap s.heap [] := va_S.rf
  have hP : va_P D vwCl (wF [gT cI b0 b1 x0]) s.heap := hP
  have hl := lv_entry ([.ref b0]) (n := 3) (Nat.le_of_ble_eq_true rfl)
  rw [lg_entry_eq]
  generalize (lg_sl ([.ref b0]) ++ List.replicate (3 - (lg_sl ([.ref b0])).length) Slot.unset).toArray = ls at hl ⊢
  have hl : lv_has ls 3 [(0, .ref b0)] := hl
  have hinX9 : ∀ w ∈ wsX90, w ∈ wsX9_readHour := fun _ h => List.mem_cons_of_mem _ (List.mem_append_right _ h)
  refine lv_aload_n hx hb dX9_readHour_0 rfl (lv_at hl 0 rfl) ?_
  refine lv_bipush (v := (9 : Int32)) hx hb dX9_readHour_1 (by decide) ?_
  have hPc : va_P D vwCl (wF [gT cI b0 b1 x0]) s.heap := w_psub hP [0] rfl
  have hDc : va_D A (wF [gT cI b0 b1 x0]) := w_gsub hD [0] rfl rfl
  refine c_Mi (F := F9_readDigit x0 (9 : Int32)) (G1 := (fun w => [gT cI b0 b1 w])) (Gr := []) (Gs' := fun z1 => [gT cI b0 b1 z1.2]) (va_runV (As := [.int (9 : Int32)]) (rest := []) ⟨hx, hb, hml, hown, hts⟩ (m9_readDigit l D cI cL cP b0 b1 x0 (9 : Int32) s.heap.size) (cwV 1 hts gX9_readHour_X9_readDigit rfl rfl rfl (by decide +kernel) ⟨Nat.le_of_ble_eq_true rfl, Nat.le_of_ble_eq_true rfl⟩) (preM_V (q := (RX9, TX9, 7)) (q0 := 0) hQ hPc hDc rfl rfl) rfl rfl hl.1 rfl (lv_room (Nat.le_of_ble_eq_true rfl)) dX9_readHour_3 ⟨Nat.le_of_ble_eq_true rfl, Nat.le_of_ble_eq_true rfl⟩) hS hA hP hD [0] [] [0] rfl rfl rfl rfl rfl (fun _ => rfl) (fun z1 H locs hz1 hP hD hS => ?_)
  have hP : va_P D vwCl (wF [gT cI b0 b1 z1.2]) H := hP
  have hD : va_D A (wF [gT cI b0 b1 z1.2]) := hD
  refine lv_istore_n (lv' := [(1, .int z1.1), (0, .ref b0)]) hx hb dX9_readHour_6 rfl hl (by decide) rfl (fun ls hl => ?_)
  refine lv_iload_n hx hb dX9_readHour_7 rfl (lv_at hl 0 rfl) ?_
  refine lv_iconst (v := (1 : Int32)) hx hb dX9_readHour_8 (by decide) ?_
  refine lv_icmp_eq (tgt := 19) hx hb dX9_readHour_9 (by decide) (fun c2 => ?_) (fun c2 => ?_)
  · have c2 : z1.1 = (1 : Int32) := c2
    refine lv_aload_n hx hb dX9_readHour_19 rfl (lv_at hl 1 rfl) ?_
    refine lv_iload_n hx hb dX9_readHour_20 rfl (lv_at hl 0 rfl) ?_
    refine lv_iconst (v := (1 : Int32)) hx hb dX9_readHour_21 (by decide) ?_
    refine w_diaI (rest := [.ref b0]) (K := z1.1 = (1 : Int32)) 31 (9 : Int32) (3 : Int32) (fun kt kf => ?_) ?_
    · refine lv_icmp_ne (tgt := 30) hx hb dX9_readHour_22 (by decide) (fun c3 => ?_) (fun c3 => ?_)
      · have c3 : ¬ (z1.1 = (1 : Int32)) := c3
        refine lv_iconst (v := (3 : Int32)) hx hb dX9_readHour_30 (by decide) ?_
        exact kf c3
      · have c3 : z1.1 = (1 : Int32) := c3
        refine lv_bipush (v := (9 : Int32)) hx hb dX9_readHour_25 (by decide) ?_
        refine lv_goto (tgt := 31) hx hb dX9_readHour_27 (by decide) ?_
        exact kt c3
    have hPc : va_P D vwCl (wF [gT cI b0 b1 z1.2]) H := w_psub hP [0] rfl
    have hDc : va_D A (wF [gT cI b0 b1 z1.2]) := w_gsub hD [0] rfl rfl
    refine c_Mi (F := F9_readDigit z1.2 (if z1.1 = (1 : Int32) then (9 : Int32) else (3 : Int32))) (G1 := (fun w => [gT cI b0 b1 w])) (Gr := []) (Gs' := fun z4 => [gT cI b0 b1 z4.2]) (va_runV (As := [.int (if z1.1 = (1 : Int32) then (9 : Int32) else (3 : Int32))]) (rest := []) ⟨hx, hb, hml, hown, hts⟩ (m9_readDigit l D cI cL cP b0 b1 z1.2 (if z1.1 = (1 : Int32) then (9 : Int32) else (3 : Int32)) H.size) (cwV 1 hts gX9_readHour_X9_readDigit rfl rfl rfl (by decide +kernel) ⟨Nat.le_of_ble_eq_true rfl, Nat.le_of_ble_eq_true rfl⟩) (preM_V (q := (RX9, TX9, 7)) (q0 := 0) hQ hPc hDc rfl rfl) rfl rfl hl.1 rfl (lv_room (Nat.le_of_ble_eq_true rfl)) dX9_readHour_31 ⟨Nat.le_of_ble_eq_true rfl, Nat.le_of_ble_eq_true rfl⟩) hS hA hP hD [0] [] [0] rfl rfl rfl rfl rfl (fun _ => rfl) (fun z4 H locs hz4 hP hD hS => ?_)
    have hP : va_P D vwCl (wF [gT cI b0 b1 z4.2]) H := hP
    have hD : va_D A (wF [gT cI b0 b1 z4.2]) := hD
    refine lv_istore_n (lv' := [(2, .int z4.1), (1, .int z1.1), (0, .ref b0)]) hx hb dX9_readHour_34 rfl hl (by decide) rfl (fun ls hl => ?_)
    refine lv_iload_n hx hb dX9_readHour_35 rfl (lv_at hl 0 rfl) ?_
    refine lv_if_ge (tgt := 43) hx hb dX9_readHour_36 (by decide) (fun c5 => ?_) (fun c5 => ?_)
    · have c5 : (0 : Int32) ≤ z4.1 := c5
      refine lv_bipush (v := (10 : Int32)) hx hb dX9_readHour_43 (by decide) ?_
      refine lv_iload_n hx hb dX9_readHour_45 rfl (lv_at hl 1 rfl) ?_
      refine lv_imul hx hb dX9_readHour_46 ?_
      refine lv_iload_n hx hb dX9_readHour_47 rfl (lv_at hl 0 rfl) ?_
      refine lv_iadd hx hb dX9_readHour_48 ?_
      exact W.iret (v := (((10 : Int32) * z1.1) + z4.1)) hx hb hr (fun t ht hW => ⟨⟨(((10 : Int32) * z1.1) + z4.1), z4.2, rfl, ((Eq.trans (congrArg (K9_readHour_1 x0) hz1.symm) (Eq.trans (if_pos c2) (Eq.trans (congrArg (K9_readHour_2 x0 z1) hz4.symm) (Eq.trans (if_pos c5) (rfl))))).symm), by rw [ht]; exact hP, hD⟩, hS.F ht⟩) hS.2.2 dX9_readHour_49
    · have c5 : ¬ ((0 : Int32) ≤ z4.1) := c5
      refine lv_iload_n hx hb dX9_readHour_39 rfl (lv_at hl 1 rfl) ?_
      refine lv_goto (tgt := 49) hx hb dX9_readHour_40 (by decide) ?_
      exact W.iret (v := z1.1) hx hb hr (fun t ht hW => ⟨⟨z1.1, z4.2, rfl, ((Eq.trans (congrArg (K9_readHour_1 x0) hz1.symm) (Eq.trans (if_pos c2) (Eq.trans (congrArg (K9_readHour_2 x0 z1) hz4.symm) (Eq.trans (if_neg c5) (rfl))))).symm), by rw [ht]; exact hP, hD⟩, hS.F ht⟩) hS.2.2 dX9_readHour_49
  · have c2 : ¬ (z1.1 = (1 : Int32)) := c2
    refine lv_iload_n hx hb dX9_readHour_12 rfl (lv_at hl 0 rfl) ?_
    refine lv_iconst (v := (2 : Int32)) hx hb dX9_readHour_13 (by decide) ?_
    refine lv_icmp_eq (tgt := 19) hx hb dX9_readHour_14 (by decide) (fun c6 => ?_) (fun c6 => ?_)
    · have c6 : z1.1 = (2 : Int32) := c6
      refine lv_aload_n hx hb dX9_readHour_19 rfl (lv_at hl 1 rfl) ?_
      refine lv_iload_n hx hb dX9_readHour_20 rfl (lv_at hl 0 rfl) ?_
      refine lv_iconst (v := (1 : Int32)) hx hb dX9_readHour_21 (by decide) ?_
      refine w_diaI (rest := [.ref b0]) (K := z1.1 = (1 : Int32)) 31 (9 : Int32) (3 : Int32) (fun kt kf => ?_) ?_
      · refine lv_icmp_ne (tgt := 30) hx hb dX9_readHour_22 (by decide) (fun c7 => ?_) (fun c7 => ?_)
        · have c7 : ¬ (z1.1 = (1 : Int32)) := c7
          refine lv_iconst (v := (3 : Int32)) hx hb dX9_readHour_30 (by decide) ?_
          exact kf c7
        · have c7 : z1.1 = (1 : Int32) := c7
          refine lv_bipush (v := (9 : Int32)) hx hb dX9_readHour_25 (by decide) ?_
          refine lv_goto (tgt := 31) hx hb dX9_readHour_27 (by decide) ?_
          exact kt c7
      have hPc : va_P D vwCl (wF [gT cI b0 b1 z1.2]) H := w_psub hP [0] rfl
      have hDc : va_D A (wF [gT cI b0 b1 z1.2]) := w_gsub hD [0] rfl rfl
      refine c_Mi (F := F9_readDigit z1.2 (if z1.1 = (1 : Int32) then (9 : Int32) else (3 : Int32))) (G1 := (fun w => [gT cI b0 b1 w])) (Gr := []) (Gs' := fun z8 => [gT cI b0 b1 z8.2]) (va_runV (As := [.int (if z1.1 = (1 : Int32) then (9 : Int32) else (3 : Int32))]) (rest := []) ⟨hx, hb, hml, hown, hts⟩ (m9_readDigit l D cI cL cP b0 b1 z1.2 (if z1.1 = (1 : Int32) then (9 : Int32) else (3 : Int32)) H.size) (cwV 1 hts gX9_readHour_X9_readDigit rfl rfl rfl (by decide +kernel) ⟨Nat.le_of_ble_eq_true rfl, Nat.le_of_ble_eq_true rfl⟩) (preM_V (q := (RX9, TX9, 7)) (q0 := 0) hQ hPc hDc rfl rfl) rfl rfl hl.1 rfl (lv_room (Nat.le_of_ble_eq_true rfl)) dX9_readHour_31 ⟨Nat.le_of_ble_eq_true rfl, Nat.le_of_ble_eq_true rfl⟩) hS hA hP hD [0] [] [0] rfl rfl rfl rfl rfl (fun _ => rfl) (fun z8 H locs hz8 hP hD hS => ?_)
      have hP : va_P D vwCl (wF [gT cI b0 b1 z8.2]) H := hP
      have hD : va_D A (wF [gT cI b0 b1 z8.2]) := hD
      refine lv_istore_n (lv' := [(2, .int z8.1), (1, .int z1.1), (0, .ref b0)]) hx hb dX9_readHour_34 rfl hl (by decide) rfl (fun ls hl => ?_)
      refine lv_iload_n hx hb dX9_readHour_35 rfl (lv_at hl 0 rfl) ?_
      refine lv_if_ge (tgt := 43) hx hb dX9_readHour_36 (by decide) (fun c9 => ?_) (fun c9 => ?_)
      · have c9 : (0 : Int32) ≤ z8.1 := c9
        refine lv_bipush (v := (10 : Int32)) hx hb dX9_readHour_43 (by decide) ?_
        refine lv_iload_n hx hb dX9_readHour_45 rfl (lv_at hl 1 rfl) ?_
        refine lv_imul hx hb dX9_readHour_46 ?_
        refine lv_iload_n hx hb dX9_readHour_47 rfl (lv_at hl 0 rfl) ?_
        refine lv_iadd hx hb dX9_readHour_48 ?_
        exact W.iret (v := (((10 : Int32) * z1.1) + z8.1)) hx hb hr (fun t ht hW => ⟨⟨(((10 : Int32) * z1.1) + z8.1), z8.2, rfl, ((Eq.trans (congrArg (K9_readHour_1 x0) hz1.symm) (Eq.trans (if_neg c2) (Eq.trans (if_pos c6) (Eq.trans (congrArg (K9_readHour_3 x0 z1) hz8.symm) (Eq.trans (if_pos c9) (rfl)))))).symm), by rw [ht]; exact hP, hD⟩, hS.F ht⟩) hS.2.2 dX9_readHour_49
      · have c9 : ¬ ((0 : Int32) ≤ z8.1) := c9
        refine lv_iload_n hx hb dX9_readHour_39 rfl (lv_at hl 1 rfl) ?_
        refine lv_goto (tgt := 49) hx hb dX9_readHour_40 (by decide) ?_
        exact W.iret (v := z1.1) hx hb hr (fun t ht hW => ⟨⟨z1.1, z8.2, rfl, ((Eq.trans (congrArg (K9_readHour_1 x0) hz1.symm) (Eq.trans (if_neg c2) (Eq.trans (if_pos c6) (Eq.trans (congrArg (K9_readHour_3 x0 z1) hz8.symm) (Eq.trans (if_neg c9) (rfl)))))).symm), by rw [ht]; exact hP, hD⟩, hS.F ht⟩) hS.2.2 dX9_readHour_49
    · have c6 : ¬ (z1.1 = (2 : Int32)) := c6
      refine lv_iload_n hx hb dX9_readHour_17 rfl (lv_at hl 0 rfl) ?_
      exact W.iret (v := z1.1) hx hb hr (fun t ht hW => ⟨⟨z1.1, z1.2, rfl, ((Eq.trans (congrArg (K9_readHour_1 x0) hz1.symm) (Eq.trans (if_neg c2) (Eq.trans (if_neg c6) (rfl)))).symm), by rw [ht]; exact hP, hD⟩, hS.F ht⟩) hS.2.2 dX9_readHour_18
def K9_readNumber_3 (x0 : ST) (z1 : Int32 × ST) (z4 : Int32 × ST) (z7 : Int32 × ST) : Int32 × ST := (if (0 : Int32) ≤ z7.1 then ((((10 : Int32) * (((10 : Int32) * z1.1) + z4.1)) + z7.1), z7.2) else ((((10 : Int32) * z1.1) + z4.1), z7.2))
def K9_readNumber_2 (x0 : ST) (z1 : Int32 × ST) (z4 : Int32 × ST) : Int32 × ST := (if (0 : Int32) ≤ z4.1 then (K9_readNumber_3 x0 z1 z4 (F9_readDigit z4.2 (9 : Int32))) else (z1.1, z4.2))
def K9_readNumber_1 (x0 : ST) (z1 : Int32 × ST) : Int32 × ST := (if (0 : Int32) < z1.1 then (K9_readNumber_2 x0 z1 (F9_readDigit z1.2 (9 : Int32))) else (z1.1, z1.2))
def F9_readNumber (x0 : ST) : Int32 × ST := (K9_readNumber_1 x0 (F9_readDigit x0 (9 : Int32)))
set_option maxHeartbeats 4000000 in
set_option maxRecDepth 100000 in
theorem m9_readNumber (l : Launch) (D : va_G) (cI cL cP : ClassId) (b0 : Nat) (b1 : Nat) (x0 : ST) (sz : Nat) : Met l yX9_readNumber wsX9_readNumber ({ frames := 3, cells := 0, slots := 0, locals := 64 }) (va_Pc [.ref b0] (pM D cI cL cP sz (wF [gT cI b0 b1 x0]))) (va_Qi (fun (r : Int32) (w : ST) => (r, w) = F9_readNumber x0) (qW D (va_A (wF [gT cI b0 b1 x0]) sz) (fun w : ST => (wF [gT cI b0 b1 w]))) (va_A (wF [gT cI b0 b1 x0]) sz)) 0 0 (va_A (wF [gT cI b0 b1 x0]) sz) := by
  refine Met.ofW (cc := cX9_readNumber) (maxL := 4) (ret := (some .int)) (by decide) rfl ?_
  intro p e s m args below meth c s₁ B hml hv
  obtain ⟨rfl, hsz, hP, hQ, hD0⟩ := hv
  have hx := B.exec
  have hb := B.bytes
  have hr := B.returns
  have hts := atoms_spec (ws := wsX9_readNumber) B.pre
  have hown : s.vm.findClass RX9 = some m.cls := findClass_of_methodNamed B.named
  have hlocks := B.notSynchronized
  subst hsz
  have hD := hD0.self (sz := s.heap.size)
  generalize hAe : va_A (wF [gT cI b0 b1 x0]) s.heap.size = A at hD ⊢
  have hA : ∀ q : Nat, s.heap.size ≤ q → A q := fun q h => by rw [← hAe]; exact Or.inr h
  have hS : va_S A s.heap s.heap [] := va_S.rf
  have hP : va_P D vwCl (wF [gT cI b0 b1 x0]) s.heap := hP
  have hl := lv_entry ([.ref b0]) (n := 4) (Nat.le_of_ble_eq_true rfl)
  rw [lg_entry_eq]
  generalize (lg_sl ([.ref b0]) ++ List.replicate (4 - (lg_sl ([.ref b0])).length) Slot.unset).toArray = ls at hl ⊢
  have hl : lv_has ls 4 [(0, .ref b0)] := hl
  have hinX9 : ∀ w ∈ wsX90, w ∈ wsX9_readNumber := fun _ h => List.mem_cons_of_mem _ (List.mem_append_right _ h)
  refine lv_aload_n hx hb dX9_readNumber_0 rfl (lv_at hl 0 rfl) ?_
  refine lv_bipush (v := (9 : Int32)) hx hb dX9_readNumber_1 (by decide) ?_
  have hPc : va_P D vwCl (wF [gT cI b0 b1 x0]) s.heap := w_psub hP [0] rfl
  have hDc : va_D A (wF [gT cI b0 b1 x0]) := w_gsub hD [0] rfl rfl
  refine c_Mi (F := F9_readDigit x0 (9 : Int32)) (G1 := (fun w => [gT cI b0 b1 w])) (Gr := []) (Gs' := fun z1 => [gT cI b0 b1 z1.2]) (va_runV (As := [.int (9 : Int32)]) (rest := []) ⟨hx, hb, hml, hown, hts⟩ (m9_readDigit l D cI cL cP b0 b1 x0 (9 : Int32) s.heap.size) (cwV 1 hts gX9_readNumber_X9_readDigit rfl rfl rfl (by decide +kernel) ⟨Nat.le_of_ble_eq_true rfl, Nat.le_of_ble_eq_true rfl⟩) (preM_V (q := (RX9, TX9, 7)) (q0 := 0) hQ hPc hDc rfl rfl) rfl rfl hl.1 rfl (lv_room (Nat.le_of_ble_eq_true rfl)) dX9_readNumber_3 ⟨Nat.le_of_ble_eq_true rfl, Nat.le_of_ble_eq_true rfl⟩) hS hA hP hD [0] [] [0] rfl rfl rfl rfl rfl (fun _ => rfl) (fun z1 H locs hz1 hP hD hS => ?_)
  have hP : va_P D vwCl (wF [gT cI b0 b1 z1.2]) H := hP
  have hD : va_D A (wF [gT cI b0 b1 z1.2]) := hD
  refine lv_istore_n (lv' := [(1, .int z1.1), (0, .ref b0)]) hx hb dX9_readNumber_6 rfl hl (by decide) rfl (fun ls hl => ?_)
  refine lv_iload_n hx hb dX9_readNumber_7 rfl (lv_at hl 0 rfl) ?_
  refine lv_if_gt (tgt := 13) hx hb dX9_readNumber_8 (by decide) (fun c2 => ?_) (fun c2 => ?_)
  · have c2 : (0 : Int32) < z1.1 := c2
    refine lv_iconst (v := (0 : Int32)) hx hb dX9_readNumber_13 (by decide) ?_
    refine lv_istore_n (lv' := [(2, .int (0 : Int32)), (1, .int z1.1), (0, .ref b0)]) hx hb dX9_readNumber_14 rfl hl (by decide) rfl (fun ls hl => ?_)
    refine lv_iload_n hx hb dX9_readNumber_15 rfl (lv_at hl 0 rfl) ?_
    refine lv_iconst (v := (2 : Int32)) hx hb dX9_readNumber_16 (by decide) ?_
    refine lv_icmp_ge (tgt := 46) hx hb dX9_readNumber_17 (by decide) (fun c3 => absurd c3 (by decide)) (fun _ => ?_)
    refine lv_aload_n hx hb dX9_readNumber_20 rfl (lv_at hl 2 rfl) ?_
    refine lv_bipush (v := (9 : Int32)) hx hb dX9_readNumber_21 (by decide) ?_
    have hPc : va_P D vwCl (wF [gT cI b0 b1 z1.2]) H := w_psub hP [0] rfl
    have hDc : va_D A (wF [gT cI b0 b1 z1.2]) := w_gsub hD [0] rfl rfl
    refine c_Mi (F := F9_readDigit z1.2 (9 : Int32)) (G1 := (fun w => [gT cI b0 b1 w])) (Gr := []) (Gs' := fun z4 => [gT cI b0 b1 z4.2]) (va_runV (As := [.int (9 : Int32)]) (rest := []) ⟨hx, hb, hml, hown, hts⟩ (m9_readDigit l D cI cL cP b0 b1 z1.2 (9 : Int32) H.size) (cwV 1 hts gX9_readNumber_X9_readDigit rfl rfl rfl (by decide +kernel) ⟨Nat.le_of_ble_eq_true rfl, Nat.le_of_ble_eq_true rfl⟩) (preM_V (q := (RX9, TX9, 7)) (q0 := 0) hQ hPc hDc rfl rfl) rfl rfl hl.1 rfl (lv_room (Nat.le_of_ble_eq_true rfl)) dX9_readNumber_23 ⟨Nat.le_of_ble_eq_true rfl, Nat.le_of_ble_eq_true rfl⟩) hS hA hP hD [0] [] [0] rfl rfl rfl rfl rfl (fun _ => rfl) (fun z4 H locs hz4 hP hD hS => ?_)
    have hP : va_P D vwCl (wF [gT cI b0 b1 z4.2]) H := hP
    have hD : va_D A (wF [gT cI b0 b1 z4.2]) := hD
    refine lv_istore_n (lv' := [(3, .int z4.1), (2, .int (0 : Int32)), (1, .int z1.1), (0, .ref b0)]) hx hb dX9_readNumber_26 rfl hl (by decide) rfl (fun ls hl => ?_)
    refine lv_iload_n hx hb dX9_readNumber_27 rfl (lv_at hl 0 rfl) ?_
    refine lv_if_ge (tgt := 33) hx hb dX9_readNumber_28 (by decide) (fun c5 => ?_) (fun c5 => ?_)
    · have c5 : (0 : Int32) ≤ z4.1 := c5
      refine lv_bipush (v := (10 : Int32)) hx hb dX9_readNumber_33 (by decide) ?_
      refine lv_iload_n hx hb dX9_readNumber_35 rfl (lv_at hl 2 rfl) ?_
      refine lv_imul hx hb dX9_readNumber_36 ?_
      refine lv_iload_n hx hb dX9_readNumber_37 rfl (lv_at hl 0 rfl) ?_
      refine lv_iadd hx hb dX9_readNumber_38 ?_
      refine lv_istore_n (lv' := [(1, .int (((10 : Int32) * z1.1) + z4.1)), (3, .int z4.1), (2, .int (0 : Int32)), (0, .ref b0)]) hx hb dX9_readNumber_39 rfl hl (by decide) rfl (fun ls hl => ?_)
      refine lv_iinc (v := (1 : Int32)) (lv' := [(2, .int (1 : Int32)), (1, .int (((10 : Int32) * z1.1) + z4.1)), (3, .int z4.1), (0, .ref b0)]) hx hb dX9_readNumber_40 hl (k := 2) rfl (by decide) (by decide) rfl (fun ls hl => ?_)
      refine lv_goto (tgt := 15) hx hb dX9_readNumber_43 (by decide) ?_
      refine lv_iload_n hx hb dX9_readNumber_15 rfl (lv_at hl 0 rfl) ?_
      refine lv_iconst (v := (2 : Int32)) hx hb dX9_readNumber_16 (by decide) ?_
      refine lv_icmp_ge (tgt := 46) hx hb dX9_readNumber_17 (by decide) (fun c6 => absurd c6 (by decide)) (fun _ => ?_)
      refine lv_aload_n hx hb dX9_readNumber_20 rfl (lv_at hl 3 rfl) ?_
      refine lv_bipush (v := (9 : Int32)) hx hb dX9_readNumber_21 (by decide) ?_
      have hPc : va_P D vwCl (wF [gT cI b0 b1 z4.2]) H := w_psub hP [0] rfl
      have hDc : va_D A (wF [gT cI b0 b1 z4.2]) := w_gsub hD [0] rfl rfl
      refine c_Mi (F := F9_readDigit z4.2 (9 : Int32)) (G1 := (fun w => [gT cI b0 b1 w])) (Gr := []) (Gs' := fun z7 => [gT cI b0 b1 z7.2]) (va_runV (As := [.int (9 : Int32)]) (rest := []) ⟨hx, hb, hml, hown, hts⟩ (m9_readDigit l D cI cL cP b0 b1 z4.2 (9 : Int32) H.size) (cwV 1 hts gX9_readNumber_X9_readDigit rfl rfl rfl (by decide +kernel) ⟨Nat.le_of_ble_eq_true rfl, Nat.le_of_ble_eq_true rfl⟩) (preM_V (q := (RX9, TX9, 7)) (q0 := 0) hQ hPc hDc rfl rfl) rfl rfl hl.1 rfl (lv_room (Nat.le_of_ble_eq_true rfl)) dX9_readNumber_23 ⟨Nat.le_of_ble_eq_true rfl, Nat.le_of_ble_eq_true rfl⟩) hS hA hP hD [0] [] [0] rfl rfl rfl rfl rfl (fun _ => rfl) (fun z7 H locs hz7 hP hD hS => ?_)
      have hP : va_P D vwCl (wF [gT cI b0 b1 z7.2]) H := hP
      have hD : va_D A (wF [gT cI b0 b1 z7.2]) := hD
      refine lv_istore_n (lv' := [(3, .int z7.1), (2, .int (1 : Int32)), (1, .int (((10 : Int32) * z1.1) + z4.1)), (0, .ref b0)]) hx hb dX9_readNumber_26 rfl hl (by decide) rfl (fun ls hl => ?_)
      refine lv_iload_n hx hb dX9_readNumber_27 rfl (lv_at hl 0 rfl) ?_
      refine lv_if_ge (tgt := 33) hx hb dX9_readNumber_28 (by decide) (fun c8 => ?_) (fun c8 => ?_)
      · have c8 : (0 : Int32) ≤ z7.1 := c8
        refine lv_bipush (v := (10 : Int32)) hx hb dX9_readNumber_33 (by decide) ?_
        refine lv_iload_n hx hb dX9_readNumber_35 rfl (lv_at hl 2 rfl) ?_
        refine lv_imul hx hb dX9_readNumber_36 ?_
        refine lv_iload_n hx hb dX9_readNumber_37 rfl (lv_at hl 0 rfl) ?_
        refine lv_iadd hx hb dX9_readNumber_38 ?_
        refine lv_istore_n (lv' := [(1, .int (((10 : Int32) * (((10 : Int32) * z1.1) + z4.1)) + z7.1)), (3, .int z7.1), (2, .int (1 : Int32)), (0, .ref b0)]) hx hb dX9_readNumber_39 rfl hl (by decide) rfl (fun ls hl => ?_)
        refine lv_iinc (v := (2 : Int32)) (lv' := [(2, .int (2 : Int32)), (1, .int (((10 : Int32) * (((10 : Int32) * z1.1) + z4.1)) + z7.1)), (3, .int z7.1), (0, .ref b0)]) hx hb dX9_readNumber_40 hl (k := 2) rfl (by decide) (by decide) rfl (fun ls hl => ?_)
        refine lv_goto (tgt := 15) hx hb dX9_readNumber_43 (by decide) ?_
        refine lv_iload_n hx hb dX9_readNumber_15 rfl (lv_at hl 0 rfl) ?_
        refine lv_iconst (v := (2 : Int32)) hx hb dX9_readNumber_16 (by decide) ?_
        refine lv_icmp_ge (tgt := 46) hx hb dX9_readNumber_17 (by decide) (fun _ => ?_) (fun c9 => absurd c9 (by decide))
        refine lv_iload_n hx hb dX9_readNumber_46 rfl (lv_at hl 1 rfl) ?_
        exact W.iret (v := (((10 : Int32) * (((10 : Int32) * z1.1) + z4.1)) + z7.1)) hx hb hr (fun t ht hW => ⟨⟨(((10 : Int32) * (((10 : Int32) * z1.1) + z4.1)) + z7.1), z7.2, rfl, ((Eq.trans (congrArg (K9_readNumber_1 x0) hz1.symm) (Eq.trans (if_pos c2) (Eq.trans (congrArg (K9_readNumber_2 x0 z1) hz4.symm) (Eq.trans (if_pos c5) (Eq.trans (congrArg (K9_readNumber_3 x0 z1 z4) hz7.symm) (Eq.trans (if_pos c8) (rfl))))))).symm), by rw [ht]; exact hP, hD⟩, hS.F ht⟩) hS.2.2 dX9_readNumber_47
      · have c8 : ¬ ((0 : Int32) ≤ z7.1) := c8
        refine lv_iload_n hx hb dX9_readNumber_31 rfl (lv_at hl 2 rfl) ?_
        exact W.iret (v := (((10 : Int32) * z1.1) + z4.1)) hx hb hr (fun t ht hW => ⟨⟨(((10 : Int32) * z1.1) + z4.1), z7.2, rfl, ((Eq.trans (congrArg (K9_readNumber_1 x0) hz1.symm) (Eq.trans (if_pos c2) (Eq.trans (congrArg (K9_readNumber_2 x0 z1) hz4.symm) (Eq.trans (if_pos c5) (Eq.trans (congrArg (K9_readNumber_3 x0 z1 z4) hz7.symm) (Eq.trans (if_neg c8) (rfl))))))).symm), by rw [ht]; exact hP, hD⟩, hS.F ht⟩) hS.2.2 dX9_readNumber_32
    · have c5 : ¬ ((0 : Int32) ≤ z4.1) := c5
      refine lv_iload_n hx hb dX9_readNumber_31 rfl (lv_at hl 2 rfl) ?_
      exact W.iret (v := z1.1) hx hb hr (fun t ht hW => ⟨⟨z1.1, z4.2, rfl, ((Eq.trans (congrArg (K9_readNumber_1 x0) hz1.symm) (Eq.trans (if_pos c2) (Eq.trans (congrArg (K9_readNumber_2 x0 z1) hz4.symm) (Eq.trans (if_neg c5) (rfl))))).symm), by rw [ht]; exact hP, hD⟩, hS.F ht⟩) hS.2.2 dX9_readNumber_32
  · have c2 : ¬ ((0 : Int32) < z1.1) := c2
    refine lv_iload_n hx hb dX9_readNumber_11 rfl (lv_at hl 0 rfl) ?_
    exact W.iret (v := z1.1) hx hb hr (fun t ht hW => ⟨⟨z1.1, z1.2, rfl, ((Eq.trans (congrArg (K9_readNumber_1 x0) hz1.symm) (Eq.trans (if_neg c2) (rfl))).symm), by rw [ht]; exact hP, hD⟩, hS.F ht⟩) hS.2.2 dX9_readNumber_12
def K9_readTariff_3 (x0 : ST) (z1 : Bool × ST) (z3 : Bool × ST) (z5 : Bool × ST) : Int32 × ST := (if z5.1 = true then ((2 : Int32), z5.2) else ((-1 : Int32), z5.2))
def K9_readTariff_2 (x0 : ST) (z1 : Bool × ST) (z3 : Bool × ST) : Int32 × ST := (if z3.1 = true then ((1 : Int32), z3.2) else (K9_readTariff_3 x0 z1 z3 (F9_accept z3.2 (112 : Int32))))
def K9_readTariff_1 (x0 : ST) (z1 : Bool × ST) : Int32 × ST := (if z1.1 = true then ((0 : Int32), z1.2) else (K9_readTariff_2 x0 z1 (F9_accept z1.2 (110 : Int32))))
def F9_readTariff (x0 : ST) : Int32 × ST := (K9_readTariff_1 x0 (F9_accept x0 (99 : Int32)))
set_option maxHeartbeats 4000000 in
set_option maxRecDepth 100000 in
theorem m9_readTariff (l : Launch) (D : va_G) (cI cL cP : ClassId) (b0 : Nat) (b1 : Nat) (x0 : ST) (sz : Nat) : Met l yX9_readTariff wsX9_readTariff ({ frames := 3, cells := 0, slots := 0, locals := 63 }) (va_Pc [.ref b0] (pM D cI cL cP sz (wF [gT cI b0 b1 x0]))) (va_Qi (fun (r : Int32) (w : ST) => (r, w) = F9_readTariff x0) (qW D (va_A (wF [gT cI b0 b1 x0]) sz) (fun w : ST => (wF [gT cI b0 b1 w]))) (va_A (wF [gT cI b0 b1 x0]) sz)) 0 0 (va_A (wF [gT cI b0 b1 x0]) sz) := by
  refine Met.ofW (cc := cX9_readTariff) (maxL := 1) (ret := (some .int)) (by decide) rfl ?_
  intro p e s m args below meth c s₁ B hml hv
  obtain ⟨rfl, hsz, hP, hQ, hD0⟩ := hv
  have hx := B.exec
  have hb := B.bytes
  have hr := B.returns
  have hts := atoms_spec (ws := wsX9_readTariff) B.pre
  have hown : s.vm.findClass RX9 = some m.cls := findClass_of_methodNamed B.named
  have hlocks := B.notSynchronized
  subst hsz
  have hD := hD0.self (sz := s.heap.size)
  generalize hAe : va_A (wF [gT cI b0 b1 x0]) s.heap.size = A at hD ⊢
  have hA : ∀ q : Nat, s.heap.size ≤ q → A q := fun q h => by rw [← hAe]; exact Or.inr h
  have hS : va_S A s.heap s.heap [] := va_S.rf
  have hP : va_P D vwCl (wF [gT cI b0 b1 x0]) s.heap := hP
  have hl := lv_entry ([.ref b0]) (n := 1) (Nat.le_of_ble_eq_true rfl)
  rw [lg_entry_eq]
  generalize (lg_sl ([.ref b0]) ++ List.replicate (1 - (lg_sl ([.ref b0])).length) Slot.unset).toArray = ls at hl ⊢
  have hl : lv_has ls 1 [(0, .ref b0)] := hl
  have hinX9 : ∀ w ∈ wsX90, w ∈ wsX9_readTariff := fun _ h => List.mem_cons_of_mem _ (List.mem_append_right _ h)
  refine lv_aload_n hx hb dX9_readTariff_0 rfl (lv_at hl 0 rfl) ?_
  refine lv_bipush (v := (99 : Int32)) hx hb dX9_readTariff_1 (by decide) ?_
  have hPc : va_P D vwCl (wF [gT cI b0 b1 x0]) s.heap := w_psub hP [0] rfl
  have hDc : va_D A (wF [gT cI b0 b1 x0]) := w_gsub hD [0] rfl rfl
  refine c_Mz (F := F9_accept x0 (99 : Int32)) (G1 := (fun w => [gT cI b0 b1 w])) (Gr := []) (Gs' := fun z1 => [gT cI b0 b1 z1.2]) (va_runV (As := [.int (99 : Int32)]) (rest := []) ⟨hx, hb, hml, hown, hts⟩ (m9_accept l D cI cL cP b0 b1 x0 (99 : Int32) s.heap.size) (cwV 1 hts gX9_readTariff_X9_accept rfl rfl rfl (by decide +kernel) ⟨Nat.le_of_ble_eq_true rfl, Nat.le_of_ble_eq_true rfl⟩) (preM_V (q := (RX9, TX9, 7)) (q0 := 0) hQ hPc hDc rfl rfl) rfl rfl hl.1 rfl (lv_room (Nat.le_of_ble_eq_true rfl)) dX9_readTariff_3 ⟨Nat.le_of_ble_eq_true rfl, Nat.le_of_ble_eq_true rfl⟩) hS hA hP hD [0] [] [0] rfl rfl rfl rfl rfl (fun _ => rfl) (fun z1 H locs hz1 hP hD hS => ?_)
  have hP : va_P D vwCl (wF [gT cI b0 b1 z1.2]) H := hP
  have hD : va_D A (wF [gT cI b0 b1 z1.2]) := hD
  refine lv_if_eq (tgt := 11) hx hb dX9_readTariff_6 (by decide) (fun c2 => ?_) (fun c2 => ?_)
  · have c2 : ¬ (z1.1 = true) := bI_0.mp c2
    refine lv_aload_n hx hb dX9_readTariff_11 rfl (lv_at hl 0 rfl) ?_
    refine lv_bipush (v := (110 : Int32)) hx hb dX9_readTariff_12 (by decide) ?_
    have hPc : va_P D vwCl (wF [gT cI b0 b1 z1.2]) H := w_psub hP [0] rfl
    have hDc : va_D A (wF [gT cI b0 b1 z1.2]) := w_gsub hD [0] rfl rfl
    refine c_Mz (F := F9_accept z1.2 (110 : Int32)) (G1 := (fun w => [gT cI b0 b1 w])) (Gr := []) (Gs' := fun z3 => [gT cI b0 b1 z3.2]) (va_runV (As := [.int (110 : Int32)]) (rest := []) ⟨hx, hb, hml, hown, hts⟩ (m9_accept l D cI cL cP b0 b1 z1.2 (110 : Int32) H.size) (cwV 1 hts gX9_readTariff_X9_accept rfl rfl rfl (by decide +kernel) ⟨Nat.le_of_ble_eq_true rfl, Nat.le_of_ble_eq_true rfl⟩) (preM_V (q := (RX9, TX9, 7)) (q0 := 0) hQ hPc hDc rfl rfl) rfl rfl hl.1 rfl (lv_room (Nat.le_of_ble_eq_true rfl)) dX9_readTariff_14 ⟨Nat.le_of_ble_eq_true rfl, Nat.le_of_ble_eq_true rfl⟩) hS hA hP hD [0] [] [0] rfl rfl rfl rfl rfl (fun _ => rfl) (fun z3 H locs hz3 hP hD hS => ?_)
    have hP : va_P D vwCl (wF [gT cI b0 b1 z3.2]) H := hP
    have hD : va_D A (wF [gT cI b0 b1 z3.2]) := hD
    refine lv_if_eq (tgt := 22) hx hb dX9_readTariff_17 (by decide) (fun c4 => ?_) (fun c4 => ?_)
    · have c4 : ¬ (z3.1 = true) := bI_0.mp c4
      refine lv_aload_n hx hb dX9_readTariff_22 rfl (lv_at hl 0 rfl) ?_
      refine lv_bipush (v := (112 : Int32)) hx hb dX9_readTariff_23 (by decide) ?_
      have hPc : va_P D vwCl (wF [gT cI b0 b1 z3.2]) H := w_psub hP [0] rfl
      have hDc : va_D A (wF [gT cI b0 b1 z3.2]) := w_gsub hD [0] rfl rfl
      refine c_Mz (F := F9_accept z3.2 (112 : Int32)) (G1 := (fun w => [gT cI b0 b1 w])) (Gr := []) (Gs' := fun z5 => [gT cI b0 b1 z5.2]) (va_runV (As := [.int (112 : Int32)]) (rest := []) ⟨hx, hb, hml, hown, hts⟩ (m9_accept l D cI cL cP b0 b1 z3.2 (112 : Int32) H.size) (cwV 1 hts gX9_readTariff_X9_accept rfl rfl rfl (by decide +kernel) ⟨Nat.le_of_ble_eq_true rfl, Nat.le_of_ble_eq_true rfl⟩) (preM_V (q := (RX9, TX9, 7)) (q0 := 0) hQ hPc hDc rfl rfl) rfl rfl hl.1 rfl (lv_room (Nat.le_of_ble_eq_true rfl)) dX9_readTariff_25 ⟨Nat.le_of_ble_eq_true rfl, Nat.le_of_ble_eq_true rfl⟩) hS hA hP hD [0] [] [0] rfl rfl rfl rfl rfl (fun _ => rfl) (fun z5 H locs hz5 hP hD hS => ?_)
      have hP : va_P D vwCl (wF [gT cI b0 b1 z5.2]) H := hP
      have hD : va_D A (wF [gT cI b0 b1 z5.2]) := hD
      refine lv_if_eq (tgt := 35) hx hb dX9_readTariff_28 (by decide) (fun c6 => ?_) (fun c6 => ?_)
      · have c6 : ¬ (z5.1 = true) := bI_0.mp c6
        refine lv_iconst (v := (-1 : Int32)) hx hb dX9_readTariff_35 (by decide) ?_
        exact W.iret (v := (-1 : Int32)) hx hb hr (fun t ht hW => ⟨⟨(-1 : Int32), z5.2, rfl, ((Eq.trans (congrArg (K9_readTariff_1 x0) hz1.symm) (Eq.trans (if_neg c2) (Eq.trans (congrArg (K9_readTariff_2 x0 z1) hz3.symm) (Eq.trans (if_neg c4) (Eq.trans (congrArg (K9_readTariff_3 x0 z1 z3) hz5.symm) (Eq.trans (if_neg c6) (rfl))))))).symm), by rw [ht]; exact hP, hD⟩, hS.F ht⟩) hS.2.2 dX9_readTariff_36
      · have c6 : z5.1 = true := bI_1.mp c6
        refine lv_iconst (v := (2 : Int32)) hx hb dX9_readTariff_31 (by decide) ?_
        refine lv_goto (tgt := 36) hx hb dX9_readTariff_32 (by decide) ?_
        exact W.iret (v := (2 : Int32)) hx hb hr (fun t ht hW => ⟨⟨(2 : Int32), z5.2, rfl, ((Eq.trans (congrArg (K9_readTariff_1 x0) hz1.symm) (Eq.trans (if_neg c2) (Eq.trans (congrArg (K9_readTariff_2 x0 z1) hz3.symm) (Eq.trans (if_neg c4) (Eq.trans (congrArg (K9_readTariff_3 x0 z1 z3) hz5.symm) (Eq.trans (if_pos c6) (rfl))))))).symm), by rw [ht]; exact hP, hD⟩, hS.F ht⟩) hS.2.2 dX9_readTariff_36
    · have c4 : z3.1 = true := bI_1.mp c4
      refine lv_iconst (v := (1 : Int32)) hx hb dX9_readTariff_20 (by decide) ?_
      exact W.iret (v := (1 : Int32)) hx hb hr (fun t ht hW => ⟨⟨(1 : Int32), z3.2, rfl, ((Eq.trans (congrArg (K9_readTariff_1 x0) hz1.symm) (Eq.trans (if_neg c2) (Eq.trans (congrArg (K9_readTariff_2 x0 z1) hz3.symm) (Eq.trans (if_pos c4) (rfl))))).symm), by rw [ht]; exact hP, hD⟩, hS.F ht⟩) hS.2.2 dX9_readTariff_21
  · have c2 : z1.1 = true := bI_1.mp c2
    refine lv_iconst (v := (0 : Int32)) hx hb dX9_readTariff_9 (by decide) ?_
    exact W.iret (v := (0 : Int32)) hx hb hr (fun t ht hW => ⟨⟨(0 : Int32), z1.2, rfl, ((Eq.trans (congrArg (K9_readTariff_1 x0) hz1.symm) (Eq.trans (if_pos c2) (rfl))).symm), by rw [ht]; exact hP, hD⟩, hS.F ht⟩) hS.2.2 dX9_readTariff_10
def K9_readEntry_7 (x0 : ST) (z1 : Int32 × ST) (z3 : Bool × ST) (z6 : Bool × ST) (z8 : Bool × ST) (z9 : Int32 × ST) (z12 : Int32 × ST) (z13 : Bool × ST) : Bool × ST := (z13.1, z13.2)
def K9_readEntry_6 (x0 : ST) (z1 : Int32 × ST) (z3 : Bool × ST) (z6 : Bool × ST) (z8 : Bool × ST) (z9 : Int32 × ST) (z12 : Int32 × ST) : Bool × ST := (K9_readEntry_7 x0 z1 z3 z6 z8 z9 z12 (F9_accept (z12.2.1, z12.2.2.1, z12.2.2.2.1, z12.2.2.2.2.1, z12.2.2.2.2.2.1, z12.2.2.2.2.2.2.1, z12.1) (59 : Int32)))
def K9_readEntry_5 (x0 : ST) (z1 : Int32 × ST) (z3 : Bool × ST) (z6 : Bool × ST) (z8 : Bool × ST) (z9 : Int32 × ST) : Bool × ST := (if (0 : Int32) ≤ z9.1 then (K9_readEntry_6 x0 z1 z3 z6 z8 z9 (F9_readTariff (z9.2.1, z9.2.2.1, z9.2.2.2.1, z9.2.2.2.2.1, z9.2.2.2.2.2.1, (if z8.1 = true then (-z9.1) else z9.1), z9.2.2.2.2.2.2.2))) else (false, z9.2))
def K9_readEntry_4 (x0 : ST) (z1 : Int32 × ST) (z3 : Bool × ST) (z6 : Bool × ST) (z8 : Bool × ST) : Bool × ST := (K9_readEntry_5 x0 z1 z3 z6 z8 (F9_readNumber z8.2))
def K9_readEntry_3 (x0 : ST) (z1 : Int32 × ST) (z3 : Bool × ST) (z6 : Bool × ST) : Bool × ST := (if z6.1 = true then (K9_readEntry_4 x0 z1 z3 z6 (F9_accept z6.2 (45 : Int32))) else (false, z6.2))
def K9_readEntry_13 (x0 : ST) (z1 : Int32 × ST) (z3 : Bool × ST) (z14 : Int32 × ST) (z16 : Bool × ST) (z18 : Bool × ST) (z19 : Int32 × ST) (z22 : Int32 × ST) (z23 : Bool × ST) : Bool × ST := (z23.1, z23.2)
def K9_readEntry_12 (x0 : ST) (z1 : Int32 × ST) (z3 : Bool × ST) (z14 : Int32 × ST) (z16 : Bool × ST) (z18 : Bool × ST) (z19 : Int32 × ST) (z22 : Int32 × ST) : Bool × ST := (K9_readEntry_13 x0 z1 z3 z14 z16 z18 z19 z22 (F9_accept (z22.2.1, z22.2.2.1, z22.2.2.2.1, z22.2.2.2.2.1, z22.2.2.2.2.2.1, z22.2.2.2.2.2.2.1, z22.1) (59 : Int32)))
def K9_readEntry_11 (x0 : ST) (z1 : Int32 × ST) (z3 : Bool × ST) (z14 : Int32 × ST) (z16 : Bool × ST) (z18 : Bool × ST) (z19 : Int32 × ST) : Bool × ST := (if (0 : Int32) ≤ z19.1 then (K9_readEntry_12 x0 z1 z3 z14 z16 z18 z19 (F9_readTariff (z19.2.1, z19.2.2.1, z19.2.2.2.1, z19.2.2.2.2.1, z19.2.2.2.2.2.1, (if z18.1 = true then (-z19.1) else z19.1), z19.2.2.2.2.2.2.2))) else (false, z19.2))
def K9_readEntry_10 (x0 : ST) (z1 : Int32 × ST) (z3 : Bool × ST) (z14 : Int32 × ST) (z16 : Bool × ST) (z18 : Bool × ST) : Bool × ST := (K9_readEntry_11 x0 z1 z3 z14 z16 z18 (F9_readNumber z18.2))
def K9_readEntry_9 (x0 : ST) (z1 : Int32 × ST) (z3 : Bool × ST) (z14 : Int32 × ST) (z16 : Bool × ST) : Bool × ST := (if z16.1 = true then (K9_readEntry_10 x0 z1 z3 z14 z16 (F9_accept z16.2 (45 : Int32))) else (false, z16.2))
def K9_readEntry_8 (x0 : ST) (z1 : Int32 × ST) (z3 : Bool × ST) (z14 : Int32 × ST) : Bool × ST := (if z14.1 < (0 : Int32) then (false, (z14.2.1, z14.2.2.1, z14.2.2.2.1, z14.2.2.2.2.1, z14.1, z14.2.2.2.2.2.2.1, z14.2.2.2.2.2.2.2)) else (K9_readEntry_9 x0 z1 z3 z14 (F9_accept (z14.2.1, z14.2.2.1, z14.2.2.2.1, z14.2.2.2.2.1, z14.1, z14.2.2.2.2.2.2.1, z14.2.2.2.2.2.2.2) (58 : Int32))))
def K9_readEntry_2 (x0 : ST) (z1 : Int32 × ST) (z3 : Bool × ST) : Bool × ST := (if z3.1 = true then (K9_readEntry_8 x0 z1 z3 (F9_readHour z3.2)) else (if z3.2.2.2.2.2.1 < (0 : Int32) then (false, z3.2) else (K9_readEntry_3 x0 z1 z3 (F9_accept z3.2 (58 : Int32)))))
def K9_readEntry_1 (x0 : ST) (z1 : Int32 × ST) : Bool × ST := (if (0 : Int32) ≤ z1.1 then (K9_readEntry_2 x0 z1 (F9_accept (z1.2.1, z1.2.2.1, z1.2.2.2.1, z1.1, z1.1, z1.2.2.2.2.2.2.1, z1.2.2.2.2.2.2.2) (45 : Int32))) else (false, (z1.2.1, z1.2.2.1, z1.2.2.2.1, z1.1, z1.2.2.2.2.2.1, z1.2.2.2.2.2.2.1, z1.2.2.2.2.2.2.2)))
def F9_readEntry (x0 : ST) : Bool × ST := (K9_readEntry_1 x0 (F9_readHour x0))
set_option maxHeartbeats 4000000 in
set_option maxRecDepth 100000 in
theorem m9_readEntry (l : Launch) (D : va_G) (cI cL cP : ClassId) (b0 : Nat) (b1 : Nat) (x0 : ST) (sz : Nat) : Met l yX9_readEntry wsX9_readEntry ({ frames := 4, cells := 0, slots := 0, locals := 87 }) (va_Pc [.ref b0] (pM D cI cL cP sz (wF [gT cI b0 b1 x0]))) (va_Qi (fun (r : Int32) (w : ST) => (r, w) = (bI (F9_readEntry x0).1, (F9_readEntry x0).2)) (qW D (va_A (wF [gT cI b0 b1 x0]) sz) (fun w : ST => (wF [gT cI b0 b1 w]))) (va_A (wF [gT cI b0 b1 x0]) sz)) 0 0 (va_A (wF [gT cI b0 b1 x0]) sz) := by
  refine Met.ofW (cc := cX9_readEntry) (maxL := 3) (ret := (some .boolean)) (by decide) rfl ?_
  intro p e s m args below meth c s₁ B hml hv
  obtain ⟨rfl, hsz, hP, hQ, hD0⟩ := hv
  have hx := B.exec
  have hb := B.bytes
  have hr := B.returns
  have hts := atoms_spec (ws := wsX9_readEntry) B.pre
  have hown : s.vm.findClass RX9 = some m.cls := findClass_of_methodNamed B.named
  have hlocks := B.notSynchronized
  subst hsz
  have hD := hD0.self (sz := s.heap.size)
  generalize hAe : va_A (wF [gT cI b0 b1 x0]) s.heap.size = A at hD ⊢
  have hA : ∀ q : Nat, s.heap.size ≤ q → A q := fun q h => by rw [← hAe]; exact Or.inr h
  have hS : va_S A s.heap s.heap [] := va_S.rf
  have hP : va_P D vwCl (wF [gT cI b0 b1 x0]) s.heap := hP
  have hl := lv_entry ([.ref b0]) (n := 3) (Nat.le_of_ble_eq_true rfl)
  rw [lg_entry_eq]
  generalize (lg_sl ([.ref b0]) ++ List.replicate (3 - (lg_sl ([.ref b0])).length) Slot.unset).toArray = ls at hl ⊢
  have hl : lv_has ls 3 [(0, .ref b0)] := hl
  have hinX9 : ∀ w ∈ wsX90, w ∈ wsX9_readEntry := fun _ h => List.mem_cons_of_mem _ (List.mem_append_right _ h)
  refine lv_aload_n hx hb dX9_readEntry_0 rfl (lv_at hl 0 rfl) ?_
  refine lv_aload_n hx hb dX9_readEntry_1 rfl (lv_at hl 0 rfl) ?_
  have hPc : va_P D vwCl (wF [gT cI b0 b1 x0]) s.heap := w_psub hP [0] rfl
  have hDc : va_D A (wF [gT cI b0 b1 x0]) := w_gsub hD [0] rfl rfl
  refine c_Mi (F := F9_readHour x0) (G1 := (fun w => [gT cI b0 b1 w])) (Gr := []) (Gs' := fun z1 => [gT cI b0 b1 z1.2]) (va_runV (As := []) (rest := [.ref b0]) ⟨hx, hb, hml, hown, hts⟩ (m9_readHour l D cI cL cP b0 b1 x0 s.heap.size) (cwV 0 hts gX9_readEntry_X9_readHour rfl rfl rfl (by decide +kernel) ⟨Nat.le_of_ble_eq_true rfl, Nat.le_of_ble_eq_true rfl⟩) (preM_V (q := (RX9, TX9, 7)) (q0 := 0) hQ hPc hDc rfl rfl) rfl rfl hl.1 rfl (lv_room (Nat.le_of_ble_eq_true rfl)) dX9_readEntry_2 ⟨Nat.le_of_ble_eq_true rfl, Nat.le_of_ble_eq_true rfl⟩) hS hA hP hD [0] [] [0] rfl rfl rfl rfl rfl (fun _ => rfl) (fun z1 H locs hz1 hP hD hS => ?_)
  have hP : va_P D vwCl (wF [gT cI b0 b1 z1.2]) H := hP
  have hD : va_D A (wF [gT cI b0 b1 z1.2]) := hD
  refine va_put (D := D) (ci := 9) (v := .int z1.1) (ty := .int) (C := RX9) (T := TX9) (N := 7) hx hb hts hinX9 tyX9 tyX9_ok nmX9 hown hQ.1 hP hD hS 0 rfl rfl 3 (by decide) (hts (.fieldLink RX9 39 "HeatPumpPlant$WeatherSheet" "firstHour" "I") (List.mem_of_getElem? (i := 1) rfl)) (fun _ h9 => h9) rfl (by decide +kernel) rfl rfl (Nat.le_of_ble_eq_true rfl) dX9_readEntry_5 (fun H locs hP hD hS => ?_)
  have hP : va_P D vwCl (wF [gT cI b0 b1 (z1.2.1, z1.2.2.1, z1.2.2.2.1, z1.1, z1.2.2.2.2.2.1, z1.2.2.2.2.2.2.1, z1.2.2.2.2.2.2.2)]) H := hP
  have hD : va_D A (wF [gT cI b0 b1 (z1.2.1, z1.2.2.1, z1.2.2.2.1, z1.1, z1.2.2.2.2.2.1, z1.2.2.2.2.2.2.1, z1.2.2.2.2.2.2.2)]) := hD
  refine lv_aload_n hx hb dX9_readEntry_8 rfl (lv_at hl 0 rfl) ?_
  refine va_get (D := D) (ci := 9) (v := .int z1.1) (C := RX9) (T := TX9) (N := 7) hx hb hts hinX9 hown hQ.1 hP 0 rfl rfl 3 (by decide) (hts (.fieldLink RX9 39 "HeatPumpPlant$WeatherSheet" "firstHour" "I") (List.mem_of_getElem? (i := 1) rfl)) (fun _ h9 => h9) rfl dX9_readEntry_9 ?_
  refine lv_if_ge (tgt := 17) hx hb dX9_readEntry_12 (by decide) (fun c2 => ?_) (fun c2 => ?_)
  · have c2 : (0 : Int32) ≤ z1.1 := c2
    refine lv_aload_n hx hb dX9_readEntry_17 rfl (lv_at hl 0 rfl) ?_
    refine lv_aload_n hx hb dX9_readEntry_18 rfl (lv_at hl 0 rfl) ?_
    refine va_get (D := D) (ci := 9) (v := .int z1.1) (C := RX9) (T := TX9) (N := 7) hx hb hts hinX9 hown hQ.1 hP 0 rfl rfl 3 (by decide) (hts (.fieldLink RX9 39 "HeatPumpPlant$WeatherSheet" "firstHour" "I") (List.mem_of_getElem? (i := 1) rfl)) (fun _ h9 => h9) rfl dX9_readEntry_19 ?_
    refine va_put (D := D) (ci := 9) (v := .int z1.1) (ty := .int) (C := RX9) (T := TX9) (N := 7) hx hb hts hinX9 tyX9 tyX9_ok nmX9 hown hQ.1 hP hD hS 0 rfl rfl 4 (by decide) (hts (.fieldLink RX9 42 "HeatPumpPlant$WeatherSheet" "lastHour" "I") (List.mem_of_getElem? (i := 2) rfl)) (fun _ h9 => h9) rfl (by decide +kernel) rfl rfl (Nat.le_of_ble_eq_true rfl) dX9_readEntry_22 (fun H locs hP hD hS => ?_)
    have hP : va_P D vwCl (wF [gT cI b0 b1 (z1.2.1, z1.2.2.1, z1.2.2.2.1, z1.1, z1.1, z1.2.2.2.2.2.2.1, z1.2.2.2.2.2.2.2)]) H := hP
    have hD : va_D A (wF [gT cI b0 b1 (z1.2.1, z1.2.2.1, z1.2.2.2.1, z1.1, z1.1, z1.2.2.2.2.2.2.1, z1.2.2.2.2.2.2.2)]) := hD
    refine lv_aload_n hx hb dX9_readEntry_25 rfl (lv_at hl 0 rfl) ?_
    refine lv_bipush (v := (45 : Int32)) hx hb dX9_readEntry_26 (by decide) ?_
    have hPc : va_P D vwCl (wF [gT cI b0 b1 (z1.2.1, z1.2.2.1, z1.2.2.2.1, z1.1, z1.1, z1.2.2.2.2.2.2.1, z1.2.2.2.2.2.2.2)]) H := w_psub hP [0] rfl
    have hDc : va_D A (wF [gT cI b0 b1 (z1.2.1, z1.2.2.1, z1.2.2.2.1, z1.1, z1.1, z1.2.2.2.2.2.2.1, z1.2.2.2.2.2.2.2)]) := w_gsub hD [0] rfl rfl
    refine c_Mz (F := F9_accept (z1.2.1, z1.2.2.1, z1.2.2.2.1, z1.1, z1.1, z1.2.2.2.2.2.2.1, z1.2.2.2.2.2.2.2) (45 : Int32)) (G1 := (fun w => [gT cI b0 b1 w])) (Gr := []) (Gs' := fun z3 => [gT cI b0 b1 z3.2]) (va_runV (As := [.int (45 : Int32)]) (rest := []) ⟨hx, hb, hml, hown, hts⟩ (m9_accept l D cI cL cP b0 b1 (z1.2.1, z1.2.2.1, z1.2.2.2.1, z1.1, z1.1, z1.2.2.2.2.2.2.1, z1.2.2.2.2.2.2.2) (45 : Int32) H.size) (cwV 1 hts gX9_readEntry_X9_accept rfl rfl rfl (by decide +kernel) ⟨Nat.le_of_ble_eq_true rfl, Nat.le_of_ble_eq_true rfl⟩) (preM_V (q := (RX9, TX9, 7)) (q0 := 0) hQ hPc hDc rfl rfl) rfl rfl hl.1 rfl (lv_room (Nat.le_of_ble_eq_true rfl)) dX9_readEntry_28 ⟨Nat.le_of_ble_eq_true rfl, Nat.le_of_ble_eq_true rfl⟩) hS hA hP hD [0] [] [0] rfl rfl rfl rfl rfl (fun _ => rfl) (fun z3 H locs hz3 hP hD hS => ?_)
    have hP : va_P D vwCl (wF [gT cI b0 b1 z3.2]) H := hP
    have hD : va_D A (wF [gT cI b0 b1 z3.2]) := hD
    refine lv_if_eq (tgt := 42) hx hb dX9_readEntry_31 (by decide) (fun c4 => ?_) (fun c4 => ?_)
    · have c4 : ¬ (z3.1 = true) := bI_0.mp c4
      refine lv_aload_n hx hb dX9_readEntry_42 rfl (lv_at hl 0 rfl) ?_
      refine va_get (D := D) (ci := 9) (v := .int z3.2.2.2.2.2.1) (C := RX9) (T := TX9) (N := 7) hx hb hts hinX9 hown hQ.1 hP 0 rfl rfl 4 (by decide) (hts (.fieldLink RX9 42 "HeatPumpPlant$WeatherSheet" "lastHour" "I") (List.mem_of_getElem? (i := 2) rfl)) (fun _ h9 => h9) rfl dX9_readEntry_43 ?_
      refine lv_if_lt (tgt := 58) hx hb dX9_readEntry_46 (by decide) (fun c5 => ?_) (fun c5 => ?_)
      · have c5 : z3.2.2.2.2.2.1 < (0 : Int32) := c5
        refine lv_iconst (v := (0 : Int32)) hx hb dX9_readEntry_58 (by decide) ?_
        exact W.zret (v := (0 : Int32)) (ty := .boolean) hx hb hr rfl (fun t ht hW => ⟨⟨(0 : Int32), z3.2, rfl, ((congrArg (fun q : Bool × ST => (bI q.1, q.2)) (show F9_readEntry x0 = (false, z3.2) from Eq.trans (congrArg (K9_readEntry_1 x0) hz1.symm) (Eq.trans (if_pos c2) (Eq.trans (congrArg (K9_readEntry_2 x0 z1) hz3.symm) (Eq.trans (if_neg c4) (Eq.trans (if_pos c5) (rfl))))))).symm), by rw [ht]; exact hP, hD⟩, hS.F ht⟩) hS.2.2 dX9_readEntry_59
      · have c5 : ¬ (z3.2.2.2.2.2.1 < (0 : Int32)) := c5
        refine lv_aload_n hx hb dX9_readEntry_49 rfl (lv_at hl 0 rfl) ?_
        refine lv_bipush (v := (58 : Int32)) hx hb dX9_readEntry_50 (by decide) ?_
        have hPc : va_P D vwCl (wF [gT cI b0 b1 z3.2]) H := w_psub hP [0] rfl
        have hDc : va_D A (wF [gT cI b0 b1 z3.2]) := w_gsub hD [0] rfl rfl
        refine c_Mz (F := F9_accept z3.2 (58 : Int32)) (G1 := (fun w => [gT cI b0 b1 w])) (Gr := []) (Gs' := fun z6 => [gT cI b0 b1 z6.2]) (va_runV (As := [.int (58 : Int32)]) (rest := []) ⟨hx, hb, hml, hown, hts⟩ (m9_accept l D cI cL cP b0 b1 z3.2 (58 : Int32) H.size) (cwV 1 hts gX9_readEntry_X9_accept rfl rfl rfl (by decide +kernel) ⟨Nat.le_of_ble_eq_true rfl, Nat.le_of_ble_eq_true rfl⟩) (preM_V (q := (RX9, TX9, 7)) (q0 := 0) hQ hPc hDc rfl rfl) rfl rfl hl.1 rfl (lv_room (Nat.le_of_ble_eq_true rfl)) dX9_readEntry_52 ⟨Nat.le_of_ble_eq_true rfl, Nat.le_of_ble_eq_true rfl⟩) hS hA hP hD [0] [] [0] rfl rfl rfl rfl rfl (fun _ => rfl) (fun z6 H locs hz6 hP hD hS => ?_)
        have hP : va_P D vwCl (wF [gT cI b0 b1 z6.2]) H := hP
        have hD : va_D A (wF [gT cI b0 b1 z6.2]) := hD
        refine lv_if_ne (tgt := 60) hx hb dX9_readEntry_55 (by decide) (fun c7 => ?_) (fun c7 => ?_)
        · have c7 : z6.1 = true := bI_1.mp c7
          refine lv_aload_n hx hb dX9_readEntry_60 rfl (lv_at hl 0 rfl) ?_
          refine lv_bipush (v := (45 : Int32)) hx hb dX9_readEntry_61 (by decide) ?_
          have hPc : va_P D vwCl (wF [gT cI b0 b1 z6.2]) H := w_psub hP [0] rfl
          have hDc : va_D A (wF [gT cI b0 b1 z6.2]) := w_gsub hD [0] rfl rfl
          refine c_Mz (F := F9_accept z6.2 (45 : Int32)) (G1 := (fun w => [gT cI b0 b1 w])) (Gr := []) (Gs' := fun z8 => [gT cI b0 b1 z8.2]) (va_runV (As := [.int (45 : Int32)]) (rest := []) ⟨hx, hb, hml, hown, hts⟩ (m9_accept l D cI cL cP b0 b1 z6.2 (45 : Int32) H.size) (cwV 1 hts gX9_readEntry_X9_accept rfl rfl rfl (by decide +kernel) ⟨Nat.le_of_ble_eq_true rfl, Nat.le_of_ble_eq_true rfl⟩) (preM_V (q := (RX9, TX9, 7)) (q0 := 0) hQ hPc hDc rfl rfl) rfl rfl hl.1 rfl (lv_room (Nat.le_of_ble_eq_true rfl)) dX9_readEntry_63 ⟨Nat.le_of_ble_eq_true rfl, Nat.le_of_ble_eq_true rfl⟩) hS hA hP hD [0] [] [0] rfl rfl rfl rfl rfl (fun _ => rfl) (fun z8 H locs hz8 hP hD hS => ?_)
          have hP : va_P D vwCl (wF [gT cI b0 b1 z8.2]) H := hP
          have hD : va_D A (wF [gT cI b0 b1 z8.2]) := hD
          refine lv_istore_n (lv' := [(1, .int (bI z8.1)), (0, .ref b0)]) hx hb dX9_readEntry_66 rfl hl (by decide) rfl (fun ls hl => ?_)
          refine lv_aload_n hx hb dX9_readEntry_67 rfl (lv_at hl 1 rfl) ?_
          have hPc : va_P D vwCl (wF [gT cI b0 b1 z8.2]) H := w_psub hP [0] rfl
          have hDc : va_D A (wF [gT cI b0 b1 z8.2]) := w_gsub hD [0] rfl rfl
          refine c_Mi (F := F9_readNumber z8.2) (G1 := (fun w => [gT cI b0 b1 w])) (Gr := []) (Gs' := fun z9 => [gT cI b0 b1 z9.2]) (va_runV (As := []) (rest := []) ⟨hx, hb, hml, hown, hts⟩ (m9_readNumber l D cI cL cP b0 b1 z8.2 H.size) (cwV 0 hts gX9_readEntry_X9_readNumber rfl rfl rfl (by decide +kernel) ⟨Nat.le_of_ble_eq_true rfl, Nat.le_of_ble_eq_true rfl⟩) (preM_V (q := (RX9, TX9, 7)) (q0 := 0) hQ hPc hDc rfl rfl) rfl rfl hl.1 rfl (lv_room (Nat.le_of_ble_eq_true rfl)) dX9_readEntry_68 ⟨Nat.le_of_ble_eq_true rfl, Nat.le_of_ble_eq_true rfl⟩) hS hA hP hD [0] [] [0] rfl rfl rfl rfl rfl (fun _ => rfl) (fun z9 H locs hz9 hP hD hS => ?_)
          have hP : va_P D vwCl (wF [gT cI b0 b1 z9.2]) H := hP
          have hD : va_D A (wF [gT cI b0 b1 z9.2]) := hD
          refine lv_istore_n (lv' := [(2, .int z9.1), (1, .int (bI z8.1)), (0, .ref b0)]) hx hb dX9_readEntry_71 rfl hl (by decide) rfl (fun ls hl => ?_)
          refine lv_iload_n hx hb dX9_readEntry_72 rfl (lv_at hl 0 rfl) ?_
          refine lv_if_ge (tgt := 78) hx hb dX9_readEntry_73 (by decide) (fun c10 => ?_) (fun c10 => ?_)
          · have c10 : (0 : Int32) ≤ z9.1 := c10
            refine lv_aload_n hx hb dX9_readEntry_78 rfl (lv_at hl 2 rfl) ?_
            refine lv_iload_n hx hb dX9_readEntry_79 rfl (lv_at hl 1 rfl) ?_
            refine w_diaI (rest := [.ref b0]) (K := z8.1 = true) 89 (-z9.1) z9.1 (fun kt kf => ?_) ?_
            · refine lv_if_eq (tgt := 88) hx hb dX9_readEntry_80 (by decide) (fun c11 => ?_) (fun c11 => ?_)
              · have c11 : ¬ (z8.1 = true) := bI_0.mp c11
                refine lv_iload_n hx hb dX9_readEntry_88 rfl (lv_at hl 0 rfl) ?_
                exact kf c11
              · have c11 : z8.1 = true := bI_1.mp c11
                refine lv_iload_n hx hb dX9_readEntry_83 rfl (lv_at hl 0 rfl) ?_
                refine lv_ineg hx hb dX9_readEntry_84 ?_
                refine lv_goto (tgt := 89) hx hb dX9_readEntry_85 (by decide) ?_
                exact kt c11
            refine va_put (D := D) (ci := 9) (v := .int (if z8.1 = true then (-z9.1) else z9.1)) (ty := .int) (C := RX9) (T := TX9) (N := 7) hx hb hts hinX9 tyX9 tyX9_ok nmX9 hown hQ.1 hP hD hS 0 rfl rfl 5 (by decide) (hts (.fieldLink RX9 30 "HeatPumpPlant$WeatherSheet" "outdoor" "I") (List.mem_of_getElem? (i := 3) rfl)) (fun _ h9 => h9) rfl (by decide +kernel) rfl rfl (Nat.le_of_ble_eq_true rfl) dX9_readEntry_89 (fun H locs hP hD hS => ?_)
            have hP : va_P D vwCl (wF [gT cI b0 b1 (z9.2.1, z9.2.2.1, z9.2.2.2.1, z9.2.2.2.2.1, z9.2.2.2.2.2.1, (if z8.1 = true then (-z9.1) else z9.1), z9.2.2.2.2.2.2.2)]) H := hP
            have hD : va_D A (wF [gT cI b0 b1 (z9.2.1, z9.2.2.1, z9.2.2.2.1, z9.2.2.2.2.1, z9.2.2.2.2.2.1, (if z8.1 = true then (-z9.1) else z9.1), z9.2.2.2.2.2.2.2)]) := hD
            refine lv_aload_n hx hb dX9_readEntry_92 rfl (lv_at hl 2 rfl) ?_
            refine lv_aload_n hx hb dX9_readEntry_93 rfl (lv_at hl 2 rfl) ?_
            have hPc : va_P D vwCl (wF [gT cI b0 b1 (z9.2.1, z9.2.2.1, z9.2.2.2.1, z9.2.2.2.2.1, z9.2.2.2.2.2.1, (if z8.1 = true then (-z9.1) else z9.1), z9.2.2.2.2.2.2.2)]) H := w_psub hP [0] rfl
            have hDc : va_D A (wF [gT cI b0 b1 (z9.2.1, z9.2.2.1, z9.2.2.2.1, z9.2.2.2.2.1, z9.2.2.2.2.2.1, (if z8.1 = true then (-z9.1) else z9.1), z9.2.2.2.2.2.2.2)]) := w_gsub hD [0] rfl rfl
            refine c_Mi (F := F9_readTariff (z9.2.1, z9.2.2.1, z9.2.2.2.1, z9.2.2.2.2.1, z9.2.2.2.2.2.1, (if z8.1 = true then (-z9.1) else z9.1), z9.2.2.2.2.2.2.2)) (G1 := (fun w => [gT cI b0 b1 w])) (Gr := []) (Gs' := fun z12 => [gT cI b0 b1 z12.2]) (va_runV (As := []) (rest := [.ref b0]) ⟨hx, hb, hml, hown, hts⟩ (m9_readTariff l D cI cL cP b0 b1 (z9.2.1, z9.2.2.1, z9.2.2.2.1, z9.2.2.2.2.1, z9.2.2.2.2.2.1, (if z8.1 = true then (-z9.1) else z9.1), z9.2.2.2.2.2.2.2) H.size) (cwV 0 hts gX9_readEntry_X9_readTariff rfl rfl rfl (by decide +kernel) ⟨Nat.le_of_ble_eq_true rfl, Nat.le_of_ble_eq_true rfl⟩) (preM_V (q := (RX9, TX9, 7)) (q0 := 0) hQ hPc hDc rfl rfl) rfl rfl hl.1 rfl (lv_room (Nat.le_of_ble_eq_true rfl)) dX9_readEntry_94 ⟨Nat.le_of_ble_eq_true rfl, Nat.le_of_ble_eq_true rfl⟩) hS hA hP hD [0] [] [0] rfl rfl rfl rfl rfl (fun _ => rfl) (fun z12 H locs hz12 hP hD hS => ?_)
            have hP : va_P D vwCl (wF [gT cI b0 b1 z12.2]) H := hP
            have hD : va_D A (wF [gT cI b0 b1 z12.2]) := hD
            refine va_put (D := D) (ci := 9) (v := .int z12.1) (ty := .int) (C := RX9) (T := TX9) (N := 7) hx hb hts hinX9 tyX9 tyX9_ok nmX9 hown hQ.1 hP hD hS 0 rfl rfl 6 (by decide) (hts (.fieldLink RX9 48 "HeatPumpPlant$WeatherSheet" "tariff" "I") (List.mem_of_getElem? (i := 4) rfl)) (fun _ h9 => h9) rfl (by decide +kernel) rfl rfl (Nat.le_of_ble_eq_true rfl) dX9_readEntry_97 (fun H locs hP hD hS => ?_)
            have hP : va_P D vwCl (wF [gT cI b0 b1 (z12.2.1, z12.2.2.1, z12.2.2.2.1, z12.2.2.2.2.1, z12.2.2.2.2.2.1, z12.2.2.2.2.2.2.1, z12.1)]) H := hP
            have hD : va_D A (wF [gT cI b0 b1 (z12.2.1, z12.2.2.1, z12.2.2.2.1, z12.2.2.2.2.1, z12.2.2.2.2.2.1, z12.2.2.2.2.2.2.1, z12.1)]) := hD
            refine lv_aload_n hx hb dX9_readEntry_100 rfl (lv_at hl 2 rfl) ?_
            refine lv_bipush (v := (59 : Int32)) hx hb dX9_readEntry_101 (by decide) ?_
            have hPc : va_P D vwCl (wF [gT cI b0 b1 (z12.2.1, z12.2.2.1, z12.2.2.2.1, z12.2.2.2.2.1, z12.2.2.2.2.2.1, z12.2.2.2.2.2.2.1, z12.1)]) H := w_psub hP [0] rfl
            have hDc : va_D A (wF [gT cI b0 b1 (z12.2.1, z12.2.2.1, z12.2.2.2.1, z12.2.2.2.2.1, z12.2.2.2.2.2.1, z12.2.2.2.2.2.2.1, z12.1)]) := w_gsub hD [0] rfl rfl
            refine c_Mz (F := F9_accept (z12.2.1, z12.2.2.1, z12.2.2.2.1, z12.2.2.2.2.1, z12.2.2.2.2.2.1, z12.2.2.2.2.2.2.1, z12.1) (59 : Int32)) (G1 := (fun w => [gT cI b0 b1 w])) (Gr := []) (Gs' := fun z13 => [gT cI b0 b1 z13.2]) (va_runV (As := [.int (59 : Int32)]) (rest := []) ⟨hx, hb, hml, hown, hts⟩ (m9_accept l D cI cL cP b0 b1 (z12.2.1, z12.2.2.1, z12.2.2.2.1, z12.2.2.2.2.1, z12.2.2.2.2.2.1, z12.2.2.2.2.2.2.1, z12.1) (59 : Int32) H.size) (cwV 1 hts gX9_readEntry_X9_accept rfl rfl rfl (by decide +kernel) ⟨Nat.le_of_ble_eq_true rfl, Nat.le_of_ble_eq_true rfl⟩) (preM_V (q := (RX9, TX9, 7)) (q0 := 0) hQ hPc hDc rfl rfl) rfl rfl hl.1 rfl (lv_room (Nat.le_of_ble_eq_true rfl)) dX9_readEntry_103 ⟨Nat.le_of_ble_eq_true rfl, Nat.le_of_ble_eq_true rfl⟩) hS hA hP hD [0] [] [0] rfl rfl rfl rfl rfl (fun _ => rfl) (fun z13 H locs hz13 hP hD hS => ?_)
            have hP : va_P D vwCl (wF [gT cI b0 b1 z13.2]) H := hP
            have hD : va_D A (wF [gT cI b0 b1 z13.2]) := hD
            exact W.zret (v := (bI z13.1)) (ty := .boolean) hx hb hr (bI_n _) (fun t ht hW => ⟨⟨(bI z13.1), z13.2, rfl, ((congrArg (fun q : Bool × ST => (bI q.1, q.2)) (show F9_readEntry x0 = (z13.1, z13.2) from Eq.trans (congrArg (K9_readEntry_1 x0) hz1.symm) (Eq.trans (if_pos c2) (Eq.trans (congrArg (K9_readEntry_2 x0 z1) hz3.symm) (Eq.trans (if_neg c4) (Eq.trans (if_neg c5) (Eq.trans (congrArg (K9_readEntry_3 x0 z1 z3) hz6.symm) (Eq.trans (if_pos c7) (Eq.trans (congrArg (K9_readEntry_4 x0 z1 z3 z6) hz8.symm) (Eq.trans (congrArg (K9_readEntry_5 x0 z1 z3 z6 z8) hz9.symm) (Eq.trans (if_pos c10) (Eq.trans (congrArg (K9_readEntry_6 x0 z1 z3 z6 z8 z9) hz12.symm) (Eq.trans (congrArg (K9_readEntry_7 x0 z1 z3 z6 z8 z9 z12) hz13.symm) (rfl)))))))))))))).symm), by rw [ht]; exact hP, hD⟩, hS.F ht⟩) hS.2.2 dX9_readEntry_106
          · have c10 : ¬ ((0 : Int32) ≤ z9.1) := c10
            refine lv_iconst (v := (0 : Int32)) hx hb dX9_readEntry_76 (by decide) ?_
            exact W.zret (v := (0 : Int32)) (ty := .boolean) hx hb hr rfl (fun t ht hW => ⟨⟨(0 : Int32), z9.2, rfl, ((congrArg (fun q : Bool × ST => (bI q.1, q.2)) (show F9_readEntry x0 = (false, z9.2) from Eq.trans (congrArg (K9_readEntry_1 x0) hz1.symm) (Eq.trans (if_pos c2) (Eq.trans (congrArg (K9_readEntry_2 x0 z1) hz3.symm) (Eq.trans (if_neg c4) (Eq.trans (if_neg c5) (Eq.trans (congrArg (K9_readEntry_3 x0 z1 z3) hz6.symm) (Eq.trans (if_pos c7) (Eq.trans (congrArg (K9_readEntry_4 x0 z1 z3 z6) hz8.symm) (Eq.trans (congrArg (K9_readEntry_5 x0 z1 z3 z6 z8) hz9.symm) (Eq.trans (if_neg c10) (rfl)))))))))))).symm), by rw [ht]; exact hP, hD⟩, hS.F ht⟩) hS.2.2 dX9_readEntry_77
        · have c7 : ¬ (z6.1 = true) := bI_0.mp c7
          refine lv_iconst (v := (0 : Int32)) hx hb dX9_readEntry_58 (by decide) ?_
          exact W.zret (v := (0 : Int32)) (ty := .boolean) hx hb hr rfl (fun t ht hW => ⟨⟨(0 : Int32), z6.2, rfl, ((congrArg (fun q : Bool × ST => (bI q.1, q.2)) (show F9_readEntry x0 = (false, z6.2) from Eq.trans (congrArg (K9_readEntry_1 x0) hz1.symm) (Eq.trans (if_pos c2) (Eq.trans (congrArg (K9_readEntry_2 x0 z1) hz3.symm) (Eq.trans (if_neg c4) (Eq.trans (if_neg c5) (Eq.trans (congrArg (K9_readEntry_3 x0 z1 z3) hz6.symm) (Eq.trans (if_neg c7) (rfl))))))))).symm), by rw [ht]; exact hP, hD⟩, hS.F ht⟩) hS.2.2 dX9_readEntry_59
    · have c4 : z3.1 = true := bI_1.mp c4
      refine lv_aload_n hx hb dX9_readEntry_34 rfl (lv_at hl 0 rfl) ?_
      refine lv_aload_n hx hb dX9_readEntry_35 rfl (lv_at hl 0 rfl) ?_
      have hPc : va_P D vwCl (wF [gT cI b0 b1 z3.2]) H := w_psub hP [0] rfl
      have hDc : va_D A (wF [gT cI b0 b1 z3.2]) := w_gsub hD [0] rfl rfl
      refine c_Mi (F := F9_readHour z3.2) (G1 := (fun w => [gT cI b0 b1 w])) (Gr := []) (Gs' := fun z14 => [gT cI b0 b1 z14.2]) (va_runV (As := []) (rest := [.ref b0]) ⟨hx, hb, hml, hown, hts⟩ (m9_readHour l D cI cL cP b0 b1 z3.2 H.size) (cwV 0 hts gX9_readEntry_X9_readHour rfl rfl rfl (by decide +kernel) ⟨Nat.le_of_ble_eq_true rfl, Nat.le_of_ble_eq_true rfl⟩) (preM_V (q := (RX9, TX9, 7)) (q0 := 0) hQ hPc hDc rfl rfl) rfl rfl hl.1 rfl (lv_room (Nat.le_of_ble_eq_true rfl)) dX9_readEntry_36 ⟨Nat.le_of_ble_eq_true rfl, Nat.le_of_ble_eq_true rfl⟩) hS hA hP hD [0] [] [0] rfl rfl rfl rfl rfl (fun _ => rfl) (fun z14 H locs hz14 hP hD hS => ?_)
      have hP : va_P D vwCl (wF [gT cI b0 b1 z14.2]) H := hP
      have hD : va_D A (wF [gT cI b0 b1 z14.2]) := hD
      refine va_put (D := D) (ci := 9) (v := .int z14.1) (ty := .int) (C := RX9) (T := TX9) (N := 7) hx hb hts hinX9 tyX9 tyX9_ok nmX9 hown hQ.1 hP hD hS 0 rfl rfl 4 (by decide) (hts (.fieldLink RX9 42 "HeatPumpPlant$WeatherSheet" "lastHour" "I") (List.mem_of_getElem? (i := 2) rfl)) (fun _ h9 => h9) rfl (by decide +kernel) rfl rfl (Nat.le_of_ble_eq_true rfl) dX9_readEntry_39 (fun H locs hP hD hS => ?_)
      have hP : va_P D vwCl (wF [gT cI b0 b1 (z14.2.1, z14.2.2.1, z14.2.2.2.1, z14.2.2.2.2.1, z14.1, z14.2.2.2.2.2.2.1, z14.2.2.2.2.2.2.2)]) H := hP
      have hD : va_D A (wF [gT cI b0 b1 (z14.2.1, z14.2.2.1, z14.2.2.2.1, z14.2.2.2.2.1, z14.1, z14.2.2.2.2.2.2.1, z14.2.2.2.2.2.2.2)]) := hD
      refine lv_aload_n hx hb dX9_readEntry_42 rfl (lv_at hl 0 rfl) ?_
      refine va_get (D := D) (ci := 9) (v := .int z14.1) (C := RX9) (T := TX9) (N := 7) hx hb hts hinX9 hown hQ.1 hP 0 rfl rfl 4 (by decide) (hts (.fieldLink RX9 42 "HeatPumpPlant$WeatherSheet" "lastHour" "I") (List.mem_of_getElem? (i := 2) rfl)) (fun _ h9 => h9) rfl dX9_readEntry_43 ?_
      refine lv_if_lt (tgt := 58) hx hb dX9_readEntry_46 (by decide) (fun c15 => ?_) (fun c15 => ?_)
      · have c15 : z14.1 < (0 : Int32) := c15
        refine lv_iconst (v := (0 : Int32)) hx hb dX9_readEntry_58 (by decide) ?_
        exact W.zret (v := (0 : Int32)) (ty := .boolean) hx hb hr rfl (fun t ht hW => ⟨⟨(0 : Int32), (z14.2.1, z14.2.2.1, z14.2.2.2.1, z14.2.2.2.2.1, z14.1, z14.2.2.2.2.2.2.1, z14.2.2.2.2.2.2.2), rfl, ((congrArg (fun q : Bool × ST => (bI q.1, q.2)) (show F9_readEntry x0 = (false, (z14.2.1, z14.2.2.1, z14.2.2.2.1, z14.2.2.2.2.1, z14.1, z14.2.2.2.2.2.2.1, z14.2.2.2.2.2.2.2)) from Eq.trans (congrArg (K9_readEntry_1 x0) hz1.symm) (Eq.trans (if_pos c2) (Eq.trans (congrArg (K9_readEntry_2 x0 z1) hz3.symm) (Eq.trans (if_pos c4) (Eq.trans (congrArg (K9_readEntry_8 x0 z1 z3) hz14.symm) (Eq.trans (if_pos c15) (rfl)))))))).symm), by rw [ht]; exact hP, hD⟩, hS.F ht⟩) hS.2.2 dX9_readEntry_59
      · have c15 : ¬ (z14.1 < (0 : Int32)) := c15
        refine lv_aload_n hx hb dX9_readEntry_49 rfl (lv_at hl 0 rfl) ?_
        refine lv_bipush (v := (58 : Int32)) hx hb dX9_readEntry_50 (by decide) ?_
        have hPc : va_P D vwCl (wF [gT cI b0 b1 (z14.2.1, z14.2.2.1, z14.2.2.2.1, z14.2.2.2.2.1, z14.1, z14.2.2.2.2.2.2.1, z14.2.2.2.2.2.2.2)]) H := w_psub hP [0] rfl
        have hDc : va_D A (wF [gT cI b0 b1 (z14.2.1, z14.2.2.1, z14.2.2.2.1, z14.2.2.2.2.1, z14.1, z14.2.2.2.2.2.2.1, z14.2.2.2.2.2.2.2)]) := w_gsub hD [0] rfl rfl
        refine c_Mz (F := F9_accept (z14.2.1, z14.2.2.1, z14.2.2.2.1, z14.2.2.2.2.1, z14.1, z14.2.2.2.2.2.2.1, z14.2.2.2.2.2.2.2) (58 : Int32)) (G1 := (fun w => [gT cI b0 b1 w])) (Gr := []) (Gs' := fun z16 => [gT cI b0 b1 z16.2]) (va_runV (As := [.int (58 : Int32)]) (rest := []) ⟨hx, hb, hml, hown, hts⟩ (m9_accept l D cI cL cP b0 b1 (z14.2.1, z14.2.2.1, z14.2.2.2.1, z14.2.2.2.2.1, z14.1, z14.2.2.2.2.2.2.1, z14.2.2.2.2.2.2.2) (58 : Int32) H.size) (cwV 1 hts gX9_readEntry_X9_accept rfl rfl rfl (by decide +kernel) ⟨Nat.le_of_ble_eq_true rfl, Nat.le_of_ble_eq_true rfl⟩) (preM_V (q := (RX9, TX9, 7)) (q0 := 0) hQ hPc hDc rfl rfl) rfl rfl hl.1 rfl (lv_room (Nat.le_of_ble_eq_true rfl)) dX9_readEntry_52 ⟨Nat.le_of_ble_eq_true rfl, Nat.le_of_ble_eq_true rfl⟩) hS hA hP hD [0] [] [0] rfl rfl rfl rfl rfl (fun _ => rfl) (fun z16 H locs hz16 hP hD hS => ?_)
        have hP : va_P D vwCl (wF [gT cI b0 b1 z16.2]) H := hP
        have hD : va_D A (wF [gT cI b0 b1 z16.2]) := hD
        refine lv_if_ne (tgt := 60) hx hb dX9_readEntry_55 (by decide) (fun c17 => ?_) (fun c17 => ?_)
        · have c17 : z16.1 = true := bI_1.mp c17
          refine lv_aload_n hx hb dX9_readEntry_60 rfl (lv_at hl 0 rfl) ?_
          refine lv_bipush (v := (45 : Int32)) hx hb dX9_readEntry_61 (by decide) ?_
          have hPc : va_P D vwCl (wF [gT cI b0 b1 z16.2]) H := w_psub hP [0] rfl
          have hDc : va_D A (wF [gT cI b0 b1 z16.2]) := w_gsub hD [0] rfl rfl
          refine c_Mz (F := F9_accept z16.2 (45 : Int32)) (G1 := (fun w => [gT cI b0 b1 w])) (Gr := []) (Gs' := fun z18 => [gT cI b0 b1 z18.2]) (va_runV (As := [.int (45 : Int32)]) (rest := []) ⟨hx, hb, hml, hown, hts⟩ (m9_accept l D cI cL cP b0 b1 z16.2 (45 : Int32) H.size) (cwV 1 hts gX9_readEntry_X9_accept rfl rfl rfl (by decide +kernel) ⟨Nat.le_of_ble_eq_true rfl, Nat.le_of_ble_eq_true rfl⟩) (preM_V (q := (RX9, TX9, 7)) (q0 := 0) hQ hPc hDc rfl rfl) rfl rfl hl.1 rfl (lv_room (Nat.le_of_ble_eq_true rfl)) dX9_readEntry_63 ⟨Nat.le_of_ble_eq_true rfl, Nat.le_of_ble_eq_true rfl⟩) hS hA hP hD [0] [] [0] rfl rfl rfl rfl rfl (fun _ => rfl) (fun z18 H locs hz18 hP hD hS => ?_)
          have hP : va_P D vwCl (wF [gT cI b0 b1 z18.2]) H := hP
          have hD : va_D A (wF [gT cI b0 b1 z18.2]) := hD
          refine lv_istore_n (lv' := [(1, .int (bI z18.1)), (0, .ref b0)]) hx hb dX9_readEntry_66 rfl hl (by decide) rfl (fun ls hl => ?_)
          refine lv_aload_n hx hb dX9_readEntry_67 rfl (lv_at hl 1 rfl) ?_
          have hPc : va_P D vwCl (wF [gT cI b0 b1 z18.2]) H := w_psub hP [0] rfl
          have hDc : va_D A (wF [gT cI b0 b1 z18.2]) := w_gsub hD [0] rfl rfl
          refine c_Mi (F := F9_readNumber z18.2) (G1 := (fun w => [gT cI b0 b1 w])) (Gr := []) (Gs' := fun z19 => [gT cI b0 b1 z19.2]) (va_runV (As := []) (rest := []) ⟨hx, hb, hml, hown, hts⟩ (m9_readNumber l D cI cL cP b0 b1 z18.2 H.size) (cwV 0 hts gX9_readEntry_X9_readNumber rfl rfl rfl (by decide +kernel) ⟨Nat.le_of_ble_eq_true rfl, Nat.le_of_ble_eq_true rfl⟩) (preM_V (q := (RX9, TX9, 7)) (q0 := 0) hQ hPc hDc rfl rfl) rfl rfl hl.1 rfl (lv_room (Nat.le_of_ble_eq_true rfl)) dX9_readEntry_68 ⟨Nat.le_of_ble_eq_true rfl, Nat.le_of_ble_eq_true rfl⟩) hS hA hP hD [0] [] [0] rfl rfl rfl rfl rfl (fun _ => rfl) (fun z19 H locs hz19 hP hD hS => ?_)
          have hP : va_P D vwCl (wF [gT cI b0 b1 z19.2]) H := hP
          have hD : va_D A (wF [gT cI b0 b1 z19.2]) := hD
          refine lv_istore_n (lv' := [(2, .int z19.1), (1, .int (bI z18.1)), (0, .ref b0)]) hx hb dX9_readEntry_71 rfl hl (by decide) rfl (fun ls hl => ?_)
          refine lv_iload_n hx hb dX9_readEntry_72 rfl (lv_at hl 0 rfl) ?_
          refine lv_if_ge (tgt := 78) hx hb dX9_readEntry_73 (by decide) (fun c20 => ?_) (fun c20 => ?_)
          · have c20 : (0 : Int32) ≤ z19.1 := c20
            refine lv_aload_n hx hb dX9_readEntry_78 rfl (lv_at hl 2 rfl) ?_
            refine lv_iload_n hx hb dX9_readEntry_79 rfl (lv_at hl 1 rfl) ?_
            refine w_diaI (rest := [.ref b0]) (K := z18.1 = true) 89 (-z19.1) z19.1 (fun kt kf => ?_) ?_
            · refine lv_if_eq (tgt := 88) hx hb dX9_readEntry_80 (by decide) (fun c21 => ?_) (fun c21 => ?_)
              · have c21 : ¬ (z18.1 = true) := bI_0.mp c21
                refine lv_iload_n hx hb dX9_readEntry_88 rfl (lv_at hl 0 rfl) ?_
                exact kf c21
              · have c21 : z18.1 = true := bI_1.mp c21
                refine lv_iload_n hx hb dX9_readEntry_83 rfl (lv_at hl 0 rfl) ?_
                refine lv_ineg hx hb dX9_readEntry_84 ?_
                refine lv_goto (tgt := 89) hx hb dX9_readEntry_85 (by decide) ?_
                exact kt c21
            refine va_put (D := D) (ci := 9) (v := .int (if z18.1 = true then (-z19.1) else z19.1)) (ty := .int) (C := RX9) (T := TX9) (N := 7) hx hb hts hinX9 tyX9 tyX9_ok nmX9 hown hQ.1 hP hD hS 0 rfl rfl 5 (by decide) (hts (.fieldLink RX9 30 "HeatPumpPlant$WeatherSheet" "outdoor" "I") (List.mem_of_getElem? (i := 3) rfl)) (fun _ h9 => h9) rfl (by decide +kernel) rfl rfl (Nat.le_of_ble_eq_true rfl) dX9_readEntry_89 (fun H locs hP hD hS => ?_)
            have hP : va_P D vwCl (wF [gT cI b0 b1 (z19.2.1, z19.2.2.1, z19.2.2.2.1, z19.2.2.2.2.1, z19.2.2.2.2.2.1, (if z18.1 = true then (-z19.1) else z19.1), z19.2.2.2.2.2.2.2)]) H := hP
            have hD : va_D A (wF [gT cI b0 b1 (z19.2.1, z19.2.2.1, z19.2.2.2.1, z19.2.2.2.2.1, z19.2.2.2.2.2.1, (if z18.1 = true then (-z19.1) else z19.1), z19.2.2.2.2.2.2.2)]) := hD
            refine lv_aload_n hx hb dX9_readEntry_92 rfl (lv_at hl 2 rfl) ?_
            refine lv_aload_n hx hb dX9_readEntry_93 rfl (lv_at hl 2 rfl) ?_
            have hPc : va_P D vwCl (wF [gT cI b0 b1 (z19.2.1, z19.2.2.1, z19.2.2.2.1, z19.2.2.2.2.1, z19.2.2.2.2.2.1, (if z18.1 = true then (-z19.1) else z19.1), z19.2.2.2.2.2.2.2)]) H := w_psub hP [0] rfl
            have hDc : va_D A (wF [gT cI b0 b1 (z19.2.1, z19.2.2.1, z19.2.2.2.1, z19.2.2.2.2.1, z19.2.2.2.2.2.1, (if z18.1 = true then (-z19.1) else z19.1), z19.2.2.2.2.2.2.2)]) := w_gsub hD [0] rfl rfl
            refine c_Mi (F := F9_readTariff (z19.2.1, z19.2.2.1, z19.2.2.2.1, z19.2.2.2.2.1, z19.2.2.2.2.2.1, (if z18.1 = true then (-z19.1) else z19.1), z19.2.2.2.2.2.2.2)) (G1 := (fun w => [gT cI b0 b1 w])) (Gr := []) (Gs' := fun z22 => [gT cI b0 b1 z22.2]) (va_runV (As := []) (rest := [.ref b0]) ⟨hx, hb, hml, hown, hts⟩ (m9_readTariff l D cI cL cP b0 b1 (z19.2.1, z19.2.2.1, z19.2.2.2.1, z19.2.2.2.2.1, z19.2.2.2.2.2.1, (if z18.1 = true then (-z19.1) else z19.1), z19.2.2.2.2.2.2.2) H.size) (cwV 0 hts gX9_readEntry_X9_readTariff rfl rfl rfl (by decide +kernel) ⟨Nat.le_of_ble_eq_true rfl, Nat.le_of_ble_eq_true rfl⟩) (preM_V (q := (RX9, TX9, 7)) (q0 := 0) hQ hPc hDc rfl rfl) rfl rfl hl.1 rfl (lv_room (Nat.le_of_ble_eq_true rfl)) dX9_readEntry_94 ⟨Nat.le_of_ble_eq_true rfl, Nat.le_of_ble_eq_true rfl⟩) hS hA hP hD [0] [] [0] rfl rfl rfl rfl rfl (fun _ => rfl) (fun z22 H locs hz22 hP hD hS => ?_)
            have hP : va_P D vwCl (wF [gT cI b0 b1 z22.2]) H := hP
            have hD : va_D A (wF [gT cI b0 b1 z22.2]) := hD
            refine va_put (D := D) (ci := 9) (v := .int z22.1) (ty := .int) (C := RX9) (T := TX9) (N := 7) hx hb hts hinX9 tyX9 tyX9_ok nmX9 hown hQ.1 hP hD hS 0 rfl rfl 6 (by decide) (hts (.fieldLink RX9 48 "HeatPumpPlant$WeatherSheet" "tariff" "I") (List.mem_of_getElem? (i := 4) rfl)) (fun _ h9 => h9) rfl (by decide +kernel) rfl rfl (Nat.le_of_ble_eq_true rfl) dX9_readEntry_97 (fun H locs hP hD hS => ?_)
            have hP : va_P D vwCl (wF [gT cI b0 b1 (z22.2.1, z22.2.2.1, z22.2.2.2.1, z22.2.2.2.2.1, z22.2.2.2.2.2.1, z22.2.2.2.2.2.2.1, z22.1)]) H := hP
            have hD : va_D A (wF [gT cI b0 b1 (z22.2.1, z22.2.2.1, z22.2.2.2.1, z22.2.2.2.2.1, z22.2.2.2.2.2.1, z22.2.2.2.2.2.2.1, z22.1)]) := hD
            refine lv_aload_n hx hb dX9_readEntry_100 rfl (lv_at hl 2 rfl) ?_
            refine lv_bipush (v := (59 : Int32)) hx hb dX9_readEntry_101 (by decide) ?_
            have hPc : va_P D vwCl (wF [gT cI b0 b1 (z22.2.1, z22.2.2.1, z22.2.2.2.1, z22.2.2.2.2.1, z22.2.2.2.2.2.1, z22.2.2.2.2.2.2.1, z22.1)]) H := w_psub hP [0] rfl
            have hDc : va_D A (wF [gT cI b0 b1 (z22.2.1, z22.2.2.1, z22.2.2.2.1, z22.2.2.2.2.1, z22.2.2.2.2.2.1, z22.2.2.2.2.2.2.1, z22.1)]) := w_gsub hD [0] rfl rfl
            refine c_Mz (F := F9_accept (z22.2.1, z22.2.2.1, z22.2.2.2.1, z22.2.2.2.2.1, z22.2.2.2.2.2.1, z22.2.2.2.2.2.2.1, z22.1) (59 : Int32)) (G1 := (fun w => [gT cI b0 b1 w])) (Gr := []) (Gs' := fun z23 => [gT cI b0 b1 z23.2]) (va_runV (As := [.int (59 : Int32)]) (rest := []) ⟨hx, hb, hml, hown, hts⟩ (m9_accept l D cI cL cP b0 b1 (z22.2.1, z22.2.2.1, z22.2.2.2.1, z22.2.2.2.2.1, z22.2.2.2.2.2.1, z22.2.2.2.2.2.2.1, z22.1) (59 : Int32) H.size) (cwV 1 hts gX9_readEntry_X9_accept rfl rfl rfl (by decide +kernel) ⟨Nat.le_of_ble_eq_true rfl, Nat.le_of_ble_eq_true rfl⟩) (preM_V (q := (RX9, TX9, 7)) (q0 := 0) hQ hPc hDc rfl rfl) rfl rfl hl.1 rfl (lv_room (Nat.le_of_ble_eq_true rfl)) dX9_readEntry_103 ⟨Nat.le_of_ble_eq_true rfl, Nat.le_of_ble_eq_true rfl⟩) hS hA hP hD [0] [] [0] rfl rfl rfl rfl rfl (fun _ => rfl) (fun z23 H locs hz23 hP hD hS => ?_)
            have hP : va_P D vwCl (wF [gT cI b0 b1 z23.2]) H := hP
            have hD : va_D A (wF [gT cI b0 b1 z23.2]) := hD
            exact W.zret (v := (bI z23.1)) (ty := .boolean) hx hb hr (bI_n _) (fun t ht hW => ⟨⟨(bI z23.1), z23.2, rfl, ((congrArg (fun q : Bool × ST => (bI q.1, q.2)) (show F9_readEntry x0 = (z23.1, z23.2) from Eq.trans (congrArg (K9_readEntry_1 x0) hz1.symm) (Eq.trans (if_pos c2) (Eq.trans (congrArg (K9_readEntry_2 x0 z1) hz3.symm) (Eq.trans (if_pos c4) (Eq.trans (congrArg (K9_readEntry_8 x0 z1 z3) hz14.symm) (Eq.trans (if_neg c15) (Eq.trans (congrArg (K9_readEntry_9 x0 z1 z3 z14) hz16.symm) (Eq.trans (if_pos c17) (Eq.trans (congrArg (K9_readEntry_10 x0 z1 z3 z14 z16) hz18.symm) (Eq.trans (congrArg (K9_readEntry_11 x0 z1 z3 z14 z16 z18) hz19.symm) (Eq.trans (if_pos c20) (Eq.trans (congrArg (K9_readEntry_12 x0 z1 z3 z14 z16 z18 z19) hz22.symm) (Eq.trans (congrArg (K9_readEntry_13 x0 z1 z3 z14 z16 z18 z19 z22) hz23.symm) (rfl))))))))))))))).symm), by rw [ht]; exact hP, hD⟩, hS.F ht⟩) hS.2.2 dX9_readEntry_106
          · have c20 : ¬ ((0 : Int32) ≤ z19.1) := c20
            refine lv_iconst (v := (0 : Int32)) hx hb dX9_readEntry_76 (by decide) ?_
            exact W.zret (v := (0 : Int32)) (ty := .boolean) hx hb hr rfl (fun t ht hW => ⟨⟨(0 : Int32), z19.2, rfl, ((congrArg (fun q : Bool × ST => (bI q.1, q.2)) (show F9_readEntry x0 = (false, z19.2) from Eq.trans (congrArg (K9_readEntry_1 x0) hz1.symm) (Eq.trans (if_pos c2) (Eq.trans (congrArg (K9_readEntry_2 x0 z1) hz3.symm) (Eq.trans (if_pos c4) (Eq.trans (congrArg (K9_readEntry_8 x0 z1 z3) hz14.symm) (Eq.trans (if_neg c15) (Eq.trans (congrArg (K9_readEntry_9 x0 z1 z3 z14) hz16.symm) (Eq.trans (if_pos c17) (Eq.trans (congrArg (K9_readEntry_10 x0 z1 z3 z14 z16) hz18.symm) (Eq.trans (congrArg (K9_readEntry_11 x0 z1 z3 z14 z16 z18) hz19.symm) (Eq.trans (if_neg c20) (rfl))))))))))))).symm), by rw [ht]; exact hP, hD⟩, hS.F ht⟩) hS.2.2 dX9_readEntry_77
        · have c17 : ¬ (z16.1 = true) := bI_0.mp c17
          refine lv_iconst (v := (0 : Int32)) hx hb dX9_readEntry_58 (by decide) ?_
          exact W.zret (v := (0 : Int32)) (ty := .boolean) hx hb hr rfl (fun t ht hW => ⟨⟨(0 : Int32), z16.2, rfl, ((congrArg (fun q : Bool × ST => (bI q.1, q.2)) (show F9_readEntry x0 = (false, z16.2) from Eq.trans (congrArg (K9_readEntry_1 x0) hz1.symm) (Eq.trans (if_pos c2) (Eq.trans (congrArg (K9_readEntry_2 x0 z1) hz3.symm) (Eq.trans (if_pos c4) (Eq.trans (congrArg (K9_readEntry_8 x0 z1 z3) hz14.symm) (Eq.trans (if_neg c15) (Eq.trans (congrArg (K9_readEntry_9 x0 z1 z3 z14) hz16.symm) (Eq.trans (if_neg c17) (rfl)))))))))).symm), by rw [ht]; exact hP, hD⟩, hS.F ht⟩) hS.2.2 dX9_readEntry_59
  · have c2 : ¬ ((0 : Int32) ≤ z1.1) := c2
    refine lv_iconst (v := (0 : Int32)) hx hb dX9_readEntry_15 (by decide) ?_
    exact W.zret (v := (0 : Int32)) (ty := .boolean) hx hb hr rfl (fun t ht hW => ⟨⟨(0 : Int32), (z1.2.1, z1.2.2.1, z1.2.2.2.1, z1.1, z1.2.2.2.2.2.1, z1.2.2.2.2.2.2.1, z1.2.2.2.2.2.2.2), rfl, ((congrArg (fun q : Bool × ST => (bI q.1, q.2)) (show F9_readEntry x0 = (false, (z1.2.1, z1.2.2.1, z1.2.2.2.1, z1.1, z1.2.2.2.2.2.1, z1.2.2.2.2.2.2.1, z1.2.2.2.2.2.2.2)) from Eq.trans (congrArg (K9_readEntry_1 x0) hz1.symm) (Eq.trans (if_neg c2) (rfl)))).symm), by rw [ht]; exact hP, hD⟩, hS.F ht⟩) hS.2.2 dX9_readEntry_16
def K9_countEntries_1 (x0 : ST) (i : Nat) (q : Bool) (x : ST) (rec9 : Nat → Bool → ST → Int32 × ST) (z5 : Bool × ST) : Int32 × ST := (if z5.1 = true then (if q = true then (if (F8_isOutdoor z5.2.2.2.2.2.2.1) = true then (if z5.2.2.2.2.2.1 < z5.2.2.2.2.1 then (rec9 (i + 1) false z5.2) else (rec9 (i + 1) true z5.2)) else (rec9 (i + 1) false z5.2)) else (rec9 (i + 1) false z5.2)) else (((-10 : Int32) - z5.2.2.2.1), z5.2))
def L9_countEntries_9 (x0 : ST) : Nat → Nat → Bool → ST → Int32 × ST
  | 0, _, _, _ => default
  | fu + 1, i, q, x => (if 100 ≤ i then (if q = true then ((nI i), x) else ((-2 : Int32), x)) else (if x.2.1 ≤ x.2.2.1 then (if q = true then ((nI i), x) else ((-2 : Int32), x)) else (K9_countEntries_1 x0 i q x (L9_countEntries_9 x0 fu) (F9_readEntry x))))
def F9_countEntries (x0 : ST) : Int32 × ST := L9_countEntries_9 x0 101 0 true (x0.1, x0.2.1, (0 : Int32), x0.2.2.2.1, x0.2.2.2.2.1, x0.2.2.2.2.2.1, x0.2.2.2.2.2.2)
set_option maxHeartbeats 4000000 in
set_option maxRecDepth 100000 in
theorem m9_countEntries (l : Launch) (D : va_G) (cI cL cP : ClassId) (b0 : Nat) (b1 : Nat) (x0 : ST) (sz : Nat) : Met l yX9_countEntries wsX9_countEntries ({ frames := 5, cells := 0, slots := 0, locals := 109 }) (va_Pc [.ref b0] (pM D cI cL cP sz (wF [gT cI b0 b1 x0]))) (va_Qi (fun (r : Int32) (w : ST) => (r, w) = F9_countEntries x0) (qW D (va_A (wF [gT cI b0 b1 x0]) sz) (fun w : ST => (wF [gT cI b0 b1 w]))) (va_A (wF [gT cI b0 b1 x0]) sz)) 0 0 (va_A (wF [gT cI b0 b1 x0]) sz) := by
  refine Met.ofW (cc := cX9_countEntries) (maxL := 3) (ret := (some .int)) (by decide) rfl ?_
  intro p e s m args below meth c s₁ B hml hv
  obtain ⟨rfl, hsz, hP, hQ, hD0⟩ := hv
  have hx := B.exec
  have hb := B.bytes
  have hr := B.returns
  have hts := atoms_spec (ws := wsX9_countEntries) B.pre
  have hown : s.vm.findClass RX9 = some m.cls := findClass_of_methodNamed B.named
  have hlocks := B.notSynchronized
  subst hsz
  have hD := hD0.self (sz := s.heap.size)
  generalize hAe : va_A (wF [gT cI b0 b1 x0]) s.heap.size = A at hD ⊢
  have hA : ∀ q : Nat, s.heap.size ≤ q → A q := fun q h => by rw [← hAe]; exact Or.inr h
  have hS : va_S A s.heap s.heap [] := va_S.rf
  have hP : va_P D vwCl (wF [gT cI b0 b1 x0]) s.heap := hP
  have hl := lv_entry ([.ref b0]) (n := 3) (Nat.le_of_ble_eq_true rfl)
  rw [lg_entry_eq]
  generalize (lg_sl ([.ref b0]) ++ List.replicate (3 - (lg_sl ([.ref b0])).length) Slot.unset).toArray = ls at hl ⊢
  have hl : lv_has ls 3 [(0, .ref b0)] := hl
  have hinX9 : ∀ w ∈ wsX90, w ∈ wsX9_countEntries := fun _ h => List.mem_cons_of_mem _ (List.mem_append_right _ h)
  refine lv_iconst (v := (0 : Int32)) hx hb dX9_countEntries_0 (by decide) ?_
  refine lv_istore_n (lv' := [(1, .int (0 : Int32)), (0, .ref b0)]) hx hb dX9_countEntries_1 rfl hl (by decide) rfl (fun ls hl => ?_)
  refine lv_iconst (v := (1 : Int32)) hx hb dX9_countEntries_2 (by decide) ?_
  refine lv_istore_n (lv' := [(2, .int (1 : Int32)), (1, .int (0 : Int32)), (0, .ref b0)]) hx hb dX9_countEntries_3 rfl hl (by decide) rfl (fun ls hl => ?_)
  refine lv_aload_n hx hb dX9_countEntries_4 rfl (lv_at hl 2 rfl) ?_
  refine lv_iconst (v := (0 : Int32)) hx hb dX9_countEntries_5 (by decide) ?_
  refine va_put (D := D) (ci := 9) (v := .int (0 : Int32)) (ty := .int) (C := RX9) (T := TX9) (N := 7) hx hb hts hinX9 tyX9 tyX9_ok nmX9 hown hQ.1 hP hD hS 0 rfl rfl 2 (by decide) (hts (.fieldLink RX9 23 "HeatPumpPlant$WeatherSheet" "position" "I") (List.mem_of_getElem? (i := 1) rfl)) (fun _ h9 => h9) rfl (by decide +kernel) rfl rfl (Nat.le_of_ble_eq_true rfl) dX9_countEntries_6 (fun H locs hP hD hS => ?_)
  have hP : va_P D vwCl (wF [gT cI b0 b1 (x0.1, x0.2.1, (0 : Int32), x0.2.2.2.1, x0.2.2.2.2.1, x0.2.2.2.2.2.1, x0.2.2.2.2.2.2)]) H := hP
  have hD : va_D A (wF [gT cI b0 b1 (x0.1, x0.2.1, (0 : Int32), x0.2.2.2.1, x0.2.2.2.2.1, x0.2.2.2.2.2.1, x0.2.2.2.2.2.2)]) := hD
  have loop9 : ∀ (fu : Nat) (i : Nat) (q : Bool) (x : ST) (hi : i ≤ 100) (hm : 100 - i < fu) (hF9 : L9_countEntries_9 x0 fu i q x = F9_countEntries x0), ∀ (H : Heap) (locs : List Loc) (_ : va_P D vwCl (wF [gT cI b0 b1 x]) H) (_ : va_D A (wF [gT cI b0 b1 x])) (_ : va_S A s.heap H locs) (ls : Array Slot) (_ : lv_has ls 3 [(2, .int (bI q)), (1, .int (nI i)), (0, .ref b0)]), W p l e (headSpec wsX9_countEntries ({ frames := 5, cells := 0, slots := 0, locals := 109 })).room s m #[.ref b0] below meth c H locs 0 0 (MQ below (va_Qi (fun (r : Int32) (w : ST) => (r, w) = F9_countEntries x0) (qW D A (fun w : ST => (wF [gT cI b0 b1 w]))) A) #[.ref b0] s 0 0 A) (F0 m 9 ls []) := by
    intro fu
    induction fu with
    | zero => intro i q x hi hm; exact absurd hm (by omega)
    | succ fu ih =>
      intro i q x hi hm hF9 H locs hP hD hS ls hl
      refine lv_iload_n hx hb dX9_countEntries_9 rfl (lv_at hl 1 rfl) ?_
      refine lv_bipush (v := (100 : Int32)) hx hb dX9_countEntries_10 (by decide) ?_
      refine lv_icmp_ge (tgt := 78) hx hb dX9_countEntries_12 (by decide) (fun c1 => ?_) (fun c1 => ?_)
      · have c1 : 100 ≤ i := (nI_leI (a := 100) (b := i) (by omega) (by omega)).mp c1
        refine lv_iload_n hx hb dX9_countEntries_78 rfl (lv_at hl 0 rfl) ?_
        refine lv_if_eq (tgt := 86) hx hb dX9_countEntries_79 (by decide) (fun c2 => ?_) (fun c2 => ?_)
        · have c2 : ¬ (q = true) := bI_0.mp c2
          refine lv_bipush (v := (-2 : Int32)) hx hb dX9_countEntries_86 (by decide) ?_
          exact W.iret (v := (-2 : Int32)) hx hb hr (fun t ht hW => ⟨⟨(-2 : Int32), x, rfl, ((hF9.symm.trans (Eq.trans (if_pos c1) (Eq.trans (if_neg c2) (rfl)))).symm), by rw [ht]; exact hP, hD⟩, hS.F ht⟩) hS.2.2 dX9_countEntries_88
        · have c2 : q = true := bI_1.mp c2
          refine lv_iload_n hx hb dX9_countEntries_82 rfl (lv_at hl 1 rfl) ?_
          refine lv_goto (tgt := 88) hx hb dX9_countEntries_83 (by decide) ?_
          exact W.iret (v := (nI i)) hx hb hr (fun t ht hW => ⟨⟨(nI i), x, rfl, ((hF9.symm.trans (Eq.trans (if_pos c1) (Eq.trans (if_pos c2) (rfl)))).symm), by rw [ht]; exact hP, hD⟩, hS.F ht⟩) hS.2.2 dX9_countEntries_88
      · have c1 : ¬ (100 ≤ i) := fun h9 => c1 ((nI_leI (a := 100) (b := i) (by omega) (by omega)).mpr h9)
        refine lv_aload_n hx hb dX9_countEntries_15 rfl (lv_at hl 2 rfl) ?_
        refine va_get (D := D) (ci := 9) (v := .int x.2.2.1) (C := RX9) (T := TX9) (N := 7) hx hb hts hinX9 hown hQ.1 hP 0 rfl rfl 2 (by decide) (hts (.fieldLink RX9 23 "HeatPumpPlant$WeatherSheet" "position" "I") (List.mem_of_getElem? (i := 1) rfl)) (fun _ h9 => h9) rfl dX9_countEntries_16 ?_
        refine lv_aload_n hx hb dX9_countEntries_19 rfl (lv_at hl 2 rfl) ?_
        refine va_get (D := D) (ci := 9) (v := .int x.2.1) (C := RX9) (T := TX9) (N := 7) hx hb hts hinX9 hown hQ.1 hP 0 rfl rfl 1 (by decide) (hts (.fieldLink RX9 15 "HeatPumpPlant$WeatherSheet" "length" "I") (List.mem_of_getElem? (i := 2) rfl)) (fun _ h9 => h9) rfl dX9_countEntries_20 ?_
        refine lv_icmp_ge (tgt := 78) hx hb dX9_countEntries_23 (by decide) (fun c3 => ?_) (fun c3 => ?_)
        · have c3 : x.2.1 ≤ x.2.2.1 := c3
          refine lv_iload_n hx hb dX9_countEntries_78 rfl (lv_at hl 0 rfl) ?_
          refine lv_if_eq (tgt := 86) hx hb dX9_countEntries_79 (by decide) (fun c4 => ?_) (fun c4 => ?_)
          · have c4 : ¬ (q = true) := bI_0.mp c4
            refine lv_bipush (v := (-2 : Int32)) hx hb dX9_countEntries_86 (by decide) ?_
            exact W.iret (v := (-2 : Int32)) hx hb hr (fun t ht hW => ⟨⟨(-2 : Int32), x, rfl, ((hF9.symm.trans (Eq.trans (if_neg c1) (Eq.trans (if_pos c3) (Eq.trans (if_neg c4) (rfl))))).symm), by rw [ht]; exact hP, hD⟩, hS.F ht⟩) hS.2.2 dX9_countEntries_88
          · have c4 : q = true := bI_1.mp c4
            refine lv_iload_n hx hb dX9_countEntries_82 rfl (lv_at hl 1 rfl) ?_
            refine lv_goto (tgt := 88) hx hb dX9_countEntries_83 (by decide) ?_
            exact W.iret (v := (nI i)) hx hb hr (fun t ht hW => ⟨⟨(nI i), x, rfl, ((hF9.symm.trans (Eq.trans (if_neg c1) (Eq.trans (if_pos c3) (Eq.trans (if_pos c4) (rfl))))).symm), by rw [ht]; exact hP, hD⟩, hS.F ht⟩) hS.2.2 dX9_countEntries_88
        · have c3 : ¬ (x.2.1 ≤ x.2.2.1) := c3
          refine lv_aload_n hx hb dX9_countEntries_26 rfl (lv_at hl 2 rfl) ?_
          have hPc : va_P D vwCl (wF [gT cI b0 b1 x]) H := w_psub hP [0] rfl
          have hDc : va_D A (wF [gT cI b0 b1 x]) := w_gsub hD [0] rfl rfl
          refine c_Mz (F := F9_readEntry x) (G1 := (fun w => [gT cI b0 b1 w])) (Gr := []) (Gs' := fun z5 => [gT cI b0 b1 z5.2]) (va_runV (As := []) (rest := []) ⟨hx, hb, hml, hown, hts⟩ (m9_readEntry l D cI cL cP b0 b1 x H.size) (cwV 0 hts gX9_countEntries_X9_readEntry rfl rfl rfl (by decide +kernel) ⟨Nat.le_of_ble_eq_true rfl, Nat.le_of_ble_eq_true rfl⟩) (preM_V (q := (RX9, TX9, 7)) (q0 := 0) hQ hPc hDc rfl rfl) rfl rfl hl.1 rfl (lv_room (Nat.le_of_ble_eq_true rfl)) dX9_countEntries_27 ⟨Nat.le_of_ble_eq_true rfl, Nat.le_of_ble_eq_true rfl⟩) hS hA hP hD [0] [] [0] rfl rfl rfl rfl rfl (fun _ => rfl) (fun z5 H locs hz5 hP hD hS => ?_)
          have hP : va_P D vwCl (wF [gT cI b0 b1 z5.2]) H := hP
          have hD : va_D A (wF [gT cI b0 b1 z5.2]) := hD
          refine lv_if_ne (tgt := 41) hx hb dX9_countEntries_30 (by decide) (fun c6 => ?_) (fun c6 => ?_)
          · have c6 : z5.1 = true := bI_1.mp c6
            refine lv_iload_n hx hb dX9_countEntries_41 rfl (lv_at hl 0 rfl) ?_
            refine lv_if_eq (tgt := 70) hx hb dX9_countEntries_42 (by decide) (fun c7 => ?_) (fun c7 => ?_)
            · have c7 : ¬ (q = true) := bI_0.mp c7
              refine lv_iconst (v := (0 : Int32)) hx hb dX9_countEntries_70 (by decide) ?_
              refine lv_istore_n (lv' := [(2, .int (0 : Int32)), (1, .int (nI i)), (0, .ref b0)]) hx hb dX9_countEntries_71 rfl hl (by decide) rfl (fun ls hl => ?_)
              refine lv_iinc (v := (nI (i + 1))) (lv' := [(1, .int (nI (i + 1))), (2, .int (0 : Int32)), (0, .ref b0)]) hx hb dX9_countEntries_72 hl (k := 1) rfl (nI_add i 1) (by decide) rfl (fun ls hl => ?_)
              refine lv_goto (tgt := 9) hx hb dX9_countEntries_75 (by decide) ?_
              have hP : va_P D vwCl (wF [gT cI b0 b1 z5.2]) H := hP
              have hD : va_D A (wF [gT cI b0 b1 z5.2]) := hD
              exact ih (i + 1) false z5.2 (by omega) (by omega) (((Eq.trans (if_neg c1) (Eq.trans (if_neg c3) (Eq.trans (congrArg (K9_countEntries_1 x0 i q x (L9_countEntries_9 x0 fu)) hz5.symm) (Eq.trans (if_pos c6) (Eq.trans (if_neg c7) (rfl)))))).symm.trans hF9)) H locs hP hD hS ls (lv_sub hl [1, 0, 2] rfl)
            · have c7 : q = true := bI_1.mp c7
              refine lv_aload_n hx hb dX9_countEntries_45 rfl (lv_at hl 2 rfl) ?_
              refine va_get (D := D) (ci := 9) (v := .int z5.2.2.2.2.2.2.1) (C := RX9) (T := TX9) (N := 7) hx hb hts hinX9 hown hQ.1 hP 0 rfl rfl 5 (by decide) (hts (.fieldLink RX9 30 "HeatPumpPlant$WeatherSheet" "outdoor" "I") (List.mem_of_getElem? (i := 3) rfl)) (fun _ h9 => h9) rfl dX9_countEntries_46 ?_
              have hPc : va_P D vwCl (wF []) H := hP.sub [] rfl
              refine c_Ri (va_runS (As := [.int z5.2.2.2.2.2.2.1]) (rest := []) ⟨hx, hb, hml, hown, hts⟩ (m8_isOutdoor l D cI cL cP z5.2.2.2.2.2.2.1 H) (va_cwS 1 hts gX9_countEntries_X8_isOutdoor rfl rfl rfl (by decide +kernel) ⟨Nat.le_of_ble_eq_true rfl, Nat.le_of_ble_eq_true rfl⟩) (preR_S hQ hPc) rfl rfl hl.1 rfl (lv_room (Nat.le_of_ble_eq_true rfl)) dX9_countEntries_49 ⟨Nat.le_of_ble_eq_true rfl, Nat.le_of_ble_eq_true rfl⟩) hS (fun locs hS => ?_)
              refine lv_if_eq (tgt := 70) hx hb dX9_countEntries_52 (by decide) (fun c8 => ?_) (fun c8 => ?_)
              · have c8 : ¬ ((F8_isOutdoor z5.2.2.2.2.2.2.1) = true) := bI_0.mp c8
                refine lv_iconst (v := (0 : Int32)) hx hb dX9_countEntries_70 (by decide) ?_
                refine lv_istore_n (lv' := [(2, .int (0 : Int32)), (1, .int (nI i)), (0, .ref b0)]) hx hb dX9_countEntries_71 rfl hl (by decide) rfl (fun ls hl => ?_)
                refine lv_iinc (v := (nI (i + 1))) (lv' := [(1, .int (nI (i + 1))), (2, .int (0 : Int32)), (0, .ref b0)]) hx hb dX9_countEntries_72 hl (k := 1) rfl (nI_add i 1) (by decide) rfl (fun ls hl => ?_)
                refine lv_goto (tgt := 9) hx hb dX9_countEntries_75 (by decide) ?_
                have hP : va_P D vwCl (wF [gT cI b0 b1 z5.2]) H := hP
                have hD : va_D A (wF [gT cI b0 b1 z5.2]) := hD
                exact ih (i + 1) false z5.2 (by omega) (by omega) (((Eq.trans (if_neg c1) (Eq.trans (if_neg c3) (Eq.trans (congrArg (K9_countEntries_1 x0 i q x (L9_countEntries_9 x0 fu)) hz5.symm) (Eq.trans (if_pos c6) (Eq.trans (if_pos c7) (Eq.trans (if_neg c8) (rfl))))))).symm.trans hF9)) H locs hP hD hS ls (lv_sub hl [1, 0, 2] rfl)
              · have c8 : (F8_isOutdoor z5.2.2.2.2.2.2.1) = true := bI_1.mp c8
                refine lv_aload_n hx hb dX9_countEntries_55 rfl (lv_at hl 2 rfl) ?_
                refine va_get (D := D) (ci := 9) (v := .int z5.2.2.2.2.1) (C := RX9) (T := TX9) (N := 7) hx hb hts hinX9 hown hQ.1 hP 0 rfl rfl 3 (by decide) (hts (.fieldLink RX9 39 "HeatPumpPlant$WeatherSheet" "firstHour" "I") (List.mem_of_getElem? (i := 4) rfl)) (fun _ h9 => h9) rfl dX9_countEntries_56 ?_
                refine lv_aload_n hx hb dX9_countEntries_59 rfl (lv_at hl 2 rfl) ?_
                refine va_get (D := D) (ci := 9) (v := .int z5.2.2.2.2.2.1) (C := RX9) (T := TX9) (N := 7) hx hb hts hinX9 hown hQ.1 hP 0 rfl rfl 4 (by decide) (hts (.fieldLink RX9 42 "HeatPumpPlant$WeatherSheet" "lastHour" "I") (List.mem_of_getElem? (i := 5) rfl)) (fun _ h9 => h9) rfl dX9_countEntries_60 ?_
                refine lv_icmp_gt (tgt := 70) hx hb dX9_countEntries_63 (by decide) (fun c9 => ?_) (fun c9 => ?_)
                · have c9 : z5.2.2.2.2.2.1 < z5.2.2.2.2.1 := c9
                  refine lv_iconst (v := (0 : Int32)) hx hb dX9_countEntries_70 (by decide) ?_
                  refine lv_istore_n (lv' := [(2, .int (0 : Int32)), (1, .int (nI i)), (0, .ref b0)]) hx hb dX9_countEntries_71 rfl hl (by decide) rfl (fun ls hl => ?_)
                  refine lv_iinc (v := (nI (i + 1))) (lv' := [(1, .int (nI (i + 1))), (2, .int (0 : Int32)), (0, .ref b0)]) hx hb dX9_countEntries_72 hl (k := 1) rfl (nI_add i 1) (by decide) rfl (fun ls hl => ?_)
                  refine lv_goto (tgt := 9) hx hb dX9_countEntries_75 (by decide) ?_
                  have hP : va_P D vwCl (wF [gT cI b0 b1 z5.2]) H := hP
                  have hD : va_D A (wF [gT cI b0 b1 z5.2]) := hD
                  exact ih (i + 1) false z5.2 (by omega) (by omega) (((Eq.trans (if_neg c1) (Eq.trans (if_neg c3) (Eq.trans (congrArg (K9_countEntries_1 x0 i q x (L9_countEntries_9 x0 fu)) hz5.symm) (Eq.trans (if_pos c6) (Eq.trans (if_pos c7) (Eq.trans (if_pos c8) (Eq.trans (if_pos c9) (rfl)))))))).symm.trans hF9)) H locs hP hD hS ls (lv_sub hl [1, 0, 2] rfl)
                · have c9 : ¬ (z5.2.2.2.2.2.1 < z5.2.2.2.2.1) := c9
                  refine lv_iconst (v := (1 : Int32)) hx hb dX9_countEntries_66 (by decide) ?_
                  refine lv_goto (tgt := 71) hx hb dX9_countEntries_67 (by decide) ?_
                  refine lv_istore_n (lv' := [(2, .int (1 : Int32)), (1, .int (nI i)), (0, .ref b0)]) hx hb dX9_countEntries_71 rfl hl (by decide) rfl (fun ls hl => ?_)
                  refine lv_iinc (v := (nI (i + 1))) (lv' := [(1, .int (nI (i + 1))), (2, .int (1 : Int32)), (0, .ref b0)]) hx hb dX9_countEntries_72 hl (k := 1) rfl (nI_add i 1) (by decide) rfl (fun ls hl => ?_)
                  refine lv_goto (tgt := 9) hx hb dX9_countEntries_75 (by decide) ?_
                  have hP : va_P D vwCl (wF [gT cI b0 b1 z5.2]) H := hP
                  have hD : va_D A (wF [gT cI b0 b1 z5.2]) := hD
                  exact ih (i + 1) true z5.2 (by omega) (by omega) (((Eq.trans (if_neg c1) (Eq.trans (if_neg c3) (Eq.trans (congrArg (K9_countEntries_1 x0 i q x (L9_countEntries_9 x0 fu)) hz5.symm) (Eq.trans (if_pos c6) (Eq.trans (if_pos c7) (Eq.trans (if_pos c8) (Eq.trans (if_neg c9) (rfl)))))))).symm.trans hF9)) H locs hP hD hS ls (lv_sub hl [1, 0, 2] rfl)
          · have c6 : ¬ (z5.1 = true) := bI_0.mp c6
            refine lv_bipush (v := (-10 : Int32)) hx hb dX9_countEntries_33 (by decide) ?_
            refine lv_aload_n hx hb dX9_countEntries_35 rfl (lv_at hl 2 rfl) ?_
            refine va_get (D := D) (ci := 9) (v := .int z5.2.2.2.1) (C := RX9) (T := TX9) (N := 7) hx hb hts hinX9 hown hQ.1 hP 0 rfl rfl 2 (by decide) (hts (.fieldLink RX9 23 "HeatPumpPlant$WeatherSheet" "position" "I") (List.mem_of_getElem? (i := 1) rfl)) (fun _ h9 => h9) rfl dX9_countEntries_36 ?_
            refine lv_isub hx hb dX9_countEntries_39 ?_
            exact W.iret (v := ((-10 : Int32) - z5.2.2.2.1)) hx hb hr (fun t ht hW => ⟨⟨((-10 : Int32) - z5.2.2.2.1), z5.2, rfl, ((hF9.symm.trans (Eq.trans (if_neg c1) (Eq.trans (if_neg c3) (Eq.trans (congrArg (K9_countEntries_1 x0 i q x (L9_countEntries_9 x0 fu)) hz5.symm) (Eq.trans (if_neg c6) (rfl)))))).symm), by rw [ht]; exact hP, hD⟩, hS.F ht⟩) hS.2.2 dX9_countEntries_40
  have hP : va_P D vwCl (wF [gT cI b0 b1 (x0.1, x0.2.1, (0 : Int32), x0.2.2.2.1, x0.2.2.2.2.1, x0.2.2.2.2.2.1, x0.2.2.2.2.2.2)]) H := hP
  have hD : va_D A (wF [gT cI b0 b1 (x0.1, x0.2.1, (0 : Int32), x0.2.2.2.1, x0.2.2.2.2.1, x0.2.2.2.2.2.1, x0.2.2.2.2.2.2)]) := hD
  exact loop9 101 0 true (x0.1, x0.2.1, (0 : Int32), x0.2.2.2.1, x0.2.2.2.2.1, x0.2.2.2.2.2.1, x0.2.2.2.2.2.2) (by omega) (by omega) ((rfl).symm) H locs hP hD hS ls (lv_sub hl [0, 1, 2] rfl)
