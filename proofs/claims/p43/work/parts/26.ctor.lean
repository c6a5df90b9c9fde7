def gLA (cL : ClassId) (a n : Nat) (x : Nat → Int64) : va_W := [(a, .inl (cL, n, .inr (.inl x)))]
theorem w_arrI {D : va_G} {cI cL cP cA : ClassId} {s : State} (h : va_K D vwCl (tyL cI cL cP ++ [(cA, .int)]) s) : cA = cI := by
  have h1 := (h.2 0 (cI, .int) rfl).2
  have h2 := (h.2 3 (cA, .int) rfl).2
  exact Option.some.inj (h2.symm.trans h1)
theorem w_arrL {D : va_G} {cI cL cP cA : ClassId} {s : State} (h : va_K D vwCl (tyL cI cL cP ++ [(cA, .long)]) s) : cA = cL := by
  have h1 := (h.2 1 (cL, .long) rfl).2
  have h2 := (h.2 3 (cA, .long) rfl).2
  exact Option.some.inj (h2.symm.trans h1)
def F0_init : SA := ((fun _ => (0 : Int32)), (-9999 : Int32), (0 : Int32), (0 : Int32), (0 : Int64), (0 : Int64), (0 : Int64), (0 : Int64), (0 : Int64), (0 : Int64), (0 : Int64))
set_option maxHeartbeats 4000000 in
set_option maxRecDepth 100000 in
theorem m0_init (l : Launch) (D : va_G) (cI cL cP : ClassId) (b0 : Nat) (sz : Nat) : Met l yX0_init wsX0_init ({ frames := 1, cells := 1, slots := 12, locals := 12 }) (va_Pc [.ref b0] (pM D cI cL cP sz (wF [[(b0, .inr (0, [.null, .int 0, .int 0, .int 0, .long 0, .long 0, .long 0, .long 0, .long 0, .long 0, .long 0]))]]))) (va_Qv (fun (w : Nat × SA) => w.2 = F0_init) (qW D (va_A (wF [[(b0, .inr (0, [.null, .int 0, .int 0, .int 0, .long 0, .long 0, .long 0, .long 0, .long 0, .long 0, .long 0]))]]) sz) (fun w : Nat × SA => (wF [gA cI b0 w.1 w.2]))) (va_A (wF [[(b0, .inr (0, [.null, .int 0, .int 0, .int 0, .long 0, .long 0, .long 0, .long 0, .long 0, .long 0, .long 0]))]]) sz)) 1 12 (va_A (wF [[(b0, .inr (0, [.null, .int 0, .int 0, .int 0, .long 0, .long 0, .long 0, .long 0, .long 0, .long 0, .long 0]))]]) sz) := by
  refine Met.ofW (cc := cX0_init) (maxL := 1) (ret := none) (by decide) rfl ?_
  intro p e s m args below meth c s₁ B hml hv
  obtain ⟨rfl, hsz, hP, hQ, hD0⟩ := hv
  have hx := B.exec
  have hb := B.bytes
  have hr := B.returns
  have hts := atoms_spec (ws := wsX0_init) B.pre
  have hown : s.vm.findClass RX0 = some m.cls := findClass_of_methodNamed B.named
  have hlocks := B.notSynchronized
  subst hsz
  have hD := hD0.self (sz := s.heap.size)
  generalize hAe : va_A (wF [[(b0, .inr (0, [.null, .int 0, .int 0, .int 0, .long 0, .long 0, .long 0, .long 0, .long 0, .long 0, .long 0]))]]) s.heap.size = A at hD ⊢
  have hA : ∀ q : Nat, s.heap.size ≤ q → A q := fun q h => by rw [← hAe]; exact Or.inr h
  have hS : va_S A s.heap s.heap [] := va_S.rf
  have hP : va_P D vwCl (wF [[(b0, .inr (0, [.null, .int 0, .int 0, .int 0, .long 0, .long 0, .long 0, .long 0, .long 0, .long 0, .long 0]))]]) s.heap := hP
  have hl := lv_entry ([.ref b0]) (n := 1) (Nat.le_of_ble_eq_true rfl)
  rw [lg_entry_eq]
  generalize (lg_sl ([.ref b0]) ++ List.replicate (1 - (lg_sl ([.ref b0])).length) Slot.unset).toArray = ls at hl ⊢
  have hl : lv_has ls 1 [(0, .ref b0)] := hl
  have hin : meth.name = "<init>" := (name_of_methodNamed B.named B.method).1
  have hinX0 : ∀ w ∈ wsX00, w ∈ wsX0_init := fun _ h => List.mem_cons_of_mem _ (List.mem_append_right _ h)
  refine lv_aload_n hx hb dX0_init_0 rfl (lv_at hl 0 rfl) ?_
  refine W.objInit hx hb hown (hts (.methodLink RX0 3 objectInit) (List.mem_of_getElem? (i := 1) rfl)) (hts (.instanceMethod objectInit) (List.mem_of_getElem? (i := 2) rfl)) (hts (.code objectInit ⟨#[0xb1]⟩ 1 none) (List.mem_of_getElem? (i := 3) rfl)) rfl (by rw [hml]; exact hl.1) rfl dX0_init_1 (Nat.le_of_ble_eq_true rfl) (Nat.le_of_ble_eq_true rfl) ?_
  refine W.eq (g2 := F0 m 4 ls []) rfl ?_
  refine lv_aload_n hx hb dX0_init_4 rfl (lv_at hl 0 rfl) ?_
  refine lv_bipush (v := (12 : Int32)) hx hb dX0_init_5 (by decide) ?_
  refine va_newa (atype := .int) (ty := .int) (a0 := (12, .inl (fun _ => (0 : Int32)))) (N' := 12) hx hb (hts (.arrayClass .int) (List.mem_of_getElem? (i := 4) rfl)) rfl hQ.1 hP hD hS hA (fun _ => vp_cell_i _ _ _) (by decide) (by decide) (Nat.le_of_ble_eq_true rfl) (Nat.le_of_ble_eq_true rfl) (Nat.le_of_ble_eq_true rfl) dX0_init_7 (fun q1 cA H hK9 hP hD hS => ?_)
  have hcA : cI = cA := (w_arrI hK9).symm
  subst hcA
  refine W.widen (k := 1) (n := 12) (by omega) (by omega) ?_
  have hP : va_P D vwCl (wF [[(b0, .inr (0, [.null, .int 0, .int 0, .int 0, .long 0, .long 0, .long 0, .long 0, .long 0, .long 0, .long 0]))], gI cI q1 12 (fun _ => (0 : Int32))]) H := hP
  have hD : va_D A (wF [[(b0, .inr (0, [.null, .int 0, .int 0, .int 0, .long 0, .long 0, .long 0, .long 0, .long 0, .long 0, .long 0]))], gI cI q1 12 (fun _ => (0 : Int32))]) := hD
  refine va_putF (D := D) (ci := 0) (v := .ref q1) (ty := .array .int) (C := RX0) (T := TX0) (N := 11) hx hb hts hinX0 tyX0 tyX0_ok nmX0 hown hQ.1 hP hD hS 0 rfl rfl 0 (by decide) (hts (.fieldLink RX0 11 "HeatPumpPlant$Accounts" "minutesByReason" "[I") (List.mem_of_getElem? (i := 5) rfl)) (fun _ h9 => h9) rfl hin rfl (by decide +kernel) rfl rfl (Nat.le_of_ble_eq_true rfl) dX0_init_9 (fun H locs hP hD hS => ?_)
  have hP : va_P D vwCl (wF [[(b0, .inr (0, [.ref q1, .int 0, .int 0, .int 0, .long 0, .long 0, .long 0, .long 0, .long 0, .long 0, .long 0]))], gI cI q1 12 (fun _ => (0 : Int32))]) H := hP
  have hD : va_D A (wF [[(b0, .inr (0, [.ref q1, .int 0, .int 0, .int 0, .long 0, .long 0, .long 0, .long 0, .long 0, .long 0, .long 0]))], gI cI q1 12 (fun _ => (0 : Int32))]) := hD
  refine lv_aload_n hx hb dX0_init_12 rfl (lv_at hl 0 rfl) ?_
  refine lv_sipush (v := (-9999 : Int32)) hx hb dX0_init_13 (by decide) ?_
  refine va_put (D := D) (ci := 0) (v := .int (-9999 : Int32)) (ty := .int) (C := RX0) (T := TX0) (N := 11) hx hb hts hinX0 tyX0 tyX0_ok nmX0 hown hQ.1 hP hD hS 0 rfl rfl 1 (by decide) (hts (.fieldLink RX0 17 "HeatPumpPlant$Accounts" "latestReason" "I") (List.mem_of_getElem? (i := 6) rfl)) (fun _ h9 => h9) rfl (by decide +kernel) rfl rfl (Nat.le_of_ble_eq_true rfl) dX0_init_16 (fun H locs hP hD hS => ?_)
  have hP : va_P D vwCl (wF [[(b0, .inr (0, [.ref q1, .int (-9999 : Int32), .int 0, .int 0, .long 0, .long 0, .long 0, .long 0, .long 0, .long 0, .long 0]))], gI cI q1 12 (fun _ => (0 : Int32))]) H := hP
  have hD : va_D A (wF [[(b0, .inr (0, [.ref q1, .int (-9999 : Int32), .int 0, .int 0, .long 0, .long 0, .long 0, .long 0, .long 0, .long 0, .long 0]))], gI cI q1 12 (fun _ => (0 : Int32))]) := hD
  have hP : va_P D vwCl (wF [gA cI b0 q1 ((fun _ => (0 : Int32)), (-9999 : Int32), (0 : Int32), (0 : Int32), (0 : Int64), (0 : Int64), (0 : Int64), (0 : Int64), (0 : Int64), (0 : Int64), (0 : Int64))]) H := hP
  have hD : va_D A (wF [gA cI b0 q1 ((fun _ => (0 : Int32)), (-9999 : Int32), (0 : Int32), (0 : Int32), (0 : Int64), (0 : Int64), (0 : Int64), (0 : Int64), (0 : Int64), (0 : Int64), (0 : Int64))]) := hD
  exact W.vret hx hb hr (fun t ht hW => ⟨⟨(q1, ((fun _ => (0 : Int32)), (-9999 : Int32), (0 : Int32), (0 : Int32), (0 : Int64), (0 : Int64), (0 : Int64), (0 : Int64), (0 : Int64), (0 : Int64), (0 : Int64))), rfl, ((rfl).symm), by rw [ht]; exact hP, hD⟩, hS.F ht⟩) hS.2.2 dX0_init_19
def F2_init : SC := ((0 : Int32), (0 : Int32), (0 : Int32), (0 : Int32), (0 : Int32))
set_option maxHeartbeats 4000000 in
set_option maxRecDepth 100000 in
theorem m2_init (l : Launch) (D : va_G) (cI cL cP : ClassId) (b0 : Nat) (sz : Nat) : Met l yX2_init wsX2_init ({ frames := 1, cells := 0, slots := 0, locals := 12 }) (va_Pc [.ref b0] (pM D cI cL cP sz (wF [[(b0, .inr (2, [.int 0, .int 0, .int 0, .int 0, .int 0]))]]))) (va_Qv (fun (w : SC) => w = F2_init) (qW D (va_A (wF [[(b0, .inr (2, [.int 0, .int 0, .int 0, .int 0, .int 0]))]]) sz) (fun w : SC => (wF [gC b0 w]))) (va_A (wF [[(b0, .inr (2, [.int 0, .int 0, .int 0, .int 0, .int 0]))]]) sz)) 0 0 (va_A (wF [[(b0, .inr (2, [.int 0, .int 0, .int 0, .int 0, .int 0]))]]) sz) := by
  refine Met.ofW (cc := cX2_init) (maxL := 1) (ret := none) (by decide) rfl ?_
  intro p e s m args below meth c s₁ B hml hv
  obtain ⟨rfl, hsz, hP, hQ, hD0⟩ := hv
  have hx := B.exec
  have hb := B.bytes
  have hr := B.returns
  have hts := atoms_spec (ws := wsX2_init) B.pre
  have hown : s.vm.findClass RX2 = some m.cls := findClass_of_methodNamed B.named
  have hlocks := B.notSynchronized
  subst hsz
  have hD := hD0.self (sz := s.heap.size)
  generalize hAe : va_A (wF [[(b0, .inr (2, [.int 0, .int 0, .int 0, .int 0, .int 0]))]]) s.heap.size = A at hD ⊢
  have hA : ∀ q : Nat, s.heap.size ≤ q → A q := fun q h => by rw [← hAe]; exact Or.inr h
  have hS : va_S A s.heap s.heap [] := va_S.rf
  have hP : va_P D vwCl (wF [[(b0, .inr (2, [.int 0, .int 0, .int 0, .int 0, .int 0]))]]) s.heap := hP
  have hl := lv_entry ([.ref b0]) (n := 1) (Nat.le_of_ble_eq_true rfl)
  rw [lg_entry_eq]
  generalize (lg_sl ([.ref b0]) ++ List.replicate (1 - (lg_sl ([.ref b0])).length) Slot.unset).toArray = ls at hl ⊢
  have hl : lv_has ls 1 [(0, .ref b0)] := hl
  have hin : meth.name = "<init>" := (name_of_methodNamed B.named B.method).1
  refine lv_aload_n hx hb dX2_init_0 rfl (lv_at hl 0 rfl) ?_
  refine W.objInit hx hb hown (hts (.methodLink RX2 1 objectInit) (List.mem_of_getElem? (i := 1) rfl)) (hts (.instanceMethod objectInit) (List.mem_of_getElem? (i := 2) rfl)) (hts (.code objectInit ⟨#[0xb1]⟩ 1 none) (List.mem_of_getElem? (i := 3) rfl)) rfl (by rw [hml]; exact hl.1) rfl dX2_init_1 (Nat.le_of_ble_eq_true rfl) (Nat.le_of_ble_eq_true rfl) ?_
  refine W.eq (g2 := F0 m 4 ls []) rfl ?_
  have hP : va_P D vwCl (wF [gC b0 ((0 : Int32), (0 : Int32), (0 : Int32), (0 : Int32), (0 : Int32))]) s.heap := hP
  have hD : va_D A (wF [gC b0 ((0 : Int32), (0 : Int32), (0 : Int32), (0 : Int32), (0 : Int32))]) := hD
  exact W.vret hx hb hr (fun t ht hW => ⟨⟨((0 : Int32), (0 : Int32), (0 : Int32), (0 : Int32), (0 : Int32)), rfl, ((rfl).symm), by rw [ht]; exact hP, hD⟩, hS.F ht⟩) hS.2.2 dX2_init_4
def F6_init : SP := ((0 : Int32), (0 : Int32), (1000 : Int32), (0 : Int32), (0 : Int32), (0 : Int32), (fun _ => (0 : Int32)))
set_option maxHeartbeats 4000000 in
set_option maxRecDepth 100000 in
theorem m6_init (l : Launch) (D : va_G) (cI cL cP : ClassId) (b0 : Nat) (sz : Nat) : Met l yX6_init wsX6_init ({ frames := 1, cells := 1, slots := 60, locals := 12 }) (va_Pc [.ref b0] (pM D cI cL cP sz (wF [[(b0, .inr (6, [.int 0, .int 0, .int 0, .int 0, .int 0, .int 0, .null]))]]))) (va_Qv (fun (w : Nat × SP) => w.2 = F6_init) (qW D (va_A (wF [[(b0, .inr (6, [.int 0, .int 0, .int 0, .int 0, .int 0, .int 0, .null]))]]) sz) (fun w : Nat × SP => (wF [gP cI b0 w.1 w.2]))) (va_A (wF [[(b0, .inr (6, [.int 0, .int 0, .int 0, .int 0, .int 0, .int 0, .null]))]]) sz)) 1 60 (va_A (wF [[(b0, .inr (6, [.int 0, .int 0, .int 0, .int 0, .int 0, .int 0, .null]))]]) sz) := by
  refine Met.ofW (cc := cX6_init) (maxL := 1) (ret := none) (by decide) rfl ?_
  intro p e s m args below meth c s₁ B hml hv
  obtain ⟨rfl, hsz, hP, hQ, hD0⟩ := hv
  have hx := B.exec
  have hb := B.bytes
  have hr := B.returns
  have hts := atoms_spec (ws := wsX6_init) B.pre
  have hown : s.vm.findClass RX6 = some m.cls := findClass_of_methodNamed B.named
  have hlocks := B.notSynchronized
  subst hsz
  have hD := hD0.self (sz := s.heap.size)
  generalize hAe : va_A (wF [[(b0, .inr (6, [.int 0, .int 0, .int 0, .int 0, .int 0, .int 0, .null]))]]) s.heap.size = A at hD ⊢
  have hA : ∀ q : Nat, s.heap.size ≤ q → A q := fun q h => by rw [← hAe]; exact Or.inr h
  have hS : va_S A s.heap s.heap [] := va_S.rf
  have hP : va_P D vwCl (wF [[(b0, .inr (6, [.int 0, .int 0, .int 0, .int 0, .int 0, .int 0, .null]))]]) s.heap := hP
  have hl := lv_entry ([.ref b0]) (n := 1) (Nat.le_of_ble_eq_true rfl)
  rw [lg_entry_eq]
  generalize (lg_sl ([.ref b0]) ++ List.replicate (1 - (lg_sl ([.ref b0])).length) Slot.unset).toArray = ls at hl ⊢
  have hl : lv_has ls 1 [(0, .ref b0)] := hl
  have hin : meth.name = "<init>" := (name_of_methodNamed B.named B.method).1
  have hinX6 : ∀ w ∈ wsX60, w ∈ wsX6_init := fun _ h => List.mem_cons_of_mem _ (List.mem_append_right _ h)
  refine lv_aload_n hx hb dX6_init_0 rfl (lv_at hl 0 rfl) ?_
  refine W.objInit hx hb hown (hts (.methodLink RX6 3 objectInit) (List.mem_of_getElem? (i := 1) rfl)) (hts (.instanceMethod objectInit) (List.mem_of_getElem? (i := 2) rfl)) (hts (.code objectInit ⟨#[0xb1]⟩ 1 none) (List.mem_of_getElem? (i := 3) rfl)) rfl (by rw [hml]; exact hl.1) rfl dX6_init_1 (Nat.le_of_ble_eq_true rfl) (Nat.le_of_ble_eq_true rfl) ?_
  refine W.eq (g2 := F0 m 4 ls []) rfl ?_
  refine lv_aload_n hx hb dX6_init_4 rfl (lv_at hl 0 rfl) ?_
  refine lv_iconst (v := (0 : Int32)) hx hb dX6_init_5 (by decide) ?_
  refine va_put (D := D) (ci := 6) (v := .int (0 : Int32)) (ty := .int) (C := RX6) (T := TX6) (N := 7) hx hb hts hinX6 tyX6 tyX6_ok nmX6 hown hQ.1 hP hD hS 0 rfl rfl 0 (by decide) (hts (.fieldLink RX6 9 "HeatPumpPlant$Pump" "mode" "I") (List.mem_of_getElem? (i := 4) rfl)) (fun _ h9 => h9) rfl (by decide +kernel) rfl rfl (Nat.le_of_ble_eq_true rfl) dX6_init_6 (fun H locs hP hD hS => ?_)
  have hP : va_P D vwCl (wF [[(b0, .inr (6, [.int (0 : Int32), .int 0, .int 0, .int 0, .int 0, .int 0, .null]))]]) H := hP
  have hD : va_D A (wF [[(b0, .inr (6, [.int (0 : Int32), .int 0, .int 0, .int 0, .int 0, .int 0, .null]))]]) := hD
  refine lv_aload_n hx hb dX6_init_9 rfl (lv_at hl 0 rfl) ?_
  refine lv_sipush (v := (1000 : Int32)) hx hb dX6_init_10 (by decide) ?_
  refine va_put (D := D) (ci := 6) (v := .int (1000 : Int32)) (ty := .int) (C := RX6) (T := TX6) (N := 7) hx hb hts hinX6 tyX6 tyX6_ok nmX6 hown hQ.1 hP hD hS 0 rfl rfl 2 (by decide) (hts (.fieldLink RX6 15 "HeatPumpPlant$Pump" "offMinutes" "I") (List.mem_of_getElem? (i := 5) rfl)) (fun _ h9 => h9) rfl (by decide +kernel) rfl rfl (Nat.le_of_ble_eq_true rfl) dX6_init_13 (fun H locs hP hD hS => ?_)
  have hP : va_P D vwCl (wF [[(b0, .inr (6, [.int (0 : Int32), .int 0, .int (1000 : Int32), .int 0, .int 0, .int 0, .null]))]]) H := hP
  have hD : va_D A (wF [[(b0, .inr (6, [.int (0 : Int32), .int 0, .int (1000 : Int32), .int 0, .int 0, .int 0, .null]))]]) := hD
  refine lv_aload_n hx hb dX6_init_16 rfl (lv_at hl 0 rfl) ?_
  refine lv_bipush (v := (60 : Int32)) hx hb dX6_init_17 (by decide) ?_
  refine va_newa (atype := .int) (ty := .int) (a0 := (60, .inl (fun _ => (0 : Int32)))) (N' := 60) hx hb (hts (.arrayClass .int) (List.mem_of_getElem? (i := 6) rfl)) rfl hQ.1 hP hD hS hA (fun _ => vp_cell_i _ _ _) (by decide) (by decide) (Nat.le_of_ble_eq_true rfl) (Nat.le_of_ble_eq_true rfl) (Nat.le_of_ble_eq_true rfl) dX6_init_19 (fun q1 cA H hK9 hP hD hS => ?_)
  have hcA : cI = cA := (w_arrI hK9).symm
  subst hcA
  refine W.widen (k := 1) (n := 60) (by omega) (by omega) ?_
  have hP : va_P D vwCl (wF [[(b0, .inr (6, [.int (0 : Int32), .int 0, .int (1000 : Int32), .int 0, .int 0, .int 0, .null]))], gI cI q1 60 (fun _ => (0 : Int32))]) H := hP
  have hD : va_D A (wF [[(b0, .inr (6, [.int (0 : Int32), .int 0, .int (1000 : Int32), .int 0, .int 0, .int 0, .null]))], gI cI q1 60 (fun _ => (0 : Int32))]) := hD
  refine va_putF (D := D) (ci := 6) (v := .ref q1) (ty := .array .int) (C := RX6) (T := TX6) (N := 7) hx hb hts hinX6 tyX6 tyX6_ok nmX6 hown hQ.1 hP hD hS 0 rfl rfl 6 (by decide) (hts (.fieldLink RX6 18 "HeatPumpPlant$Pump" "startsByMinute" "[I") (List.mem_of_getElem? (i := 7) rfl)) (fun _ h9 => h9) rfl hin rfl (by decide +kernel) rfl rfl (Nat.le_of_ble_eq_true rfl) dX6_init_21 (fun H locs hP hD hS => ?_)
  have hP : va_P D vwCl (wF [[(b0, .inr (6, [.int (0 : Int32), .int 0, .int (1000 : Int32), .int 0, .int 0, .int 0, .ref q1]))], gI cI q1 60 (fun _ => (0 : Int32))]) H := hP
  have hD : va_D A (wF [[(b0, .inr (6, [.int (0 : Int32), .int 0, .int (1000 : Int32), .int 0, .int 0, .int 0, .ref q1]))], gI cI q1 60 (fun _ => (0 : Int32))]) := hD
  have hP : va_P D vwCl (wF [gP cI b0 q1 ((0 : Int32), (0 : Int32), (1000 : Int32), (0 : Int32), (0 : Int32), (0 : Int32), (fun _ => (0 : Int32)))]) H := hP
  have hD : va_D A (wF [gP cI b0 q1 ((0 : Int32), (0 : Int32), (1000 : Int32), (0 : Int32), (0 : Int32), (0 : Int32), (fun _ => (0 : Int32)))]) := hD
  exact W.vret hx hb hr (fun t ht hW => ⟨⟨(q1, ((0 : Int32), (0 : Int32), (1000 : Int32), (0 : Int32), (0 : Int32), (0 : Int32), (fun _ => (0 : Int32)))), rfl, ((rfl).symm), by rw [ht]; exact hP, hD⟩, hS.F ht⟩) hS.2.2 dX6_init_24
def F9_init : ST := ((fun _ => (0 : Int32)), (0 : Int32), (0 : Int32), (0 : Int32), (0 : Int32), (0 : Int32), (0 : Int32))
set_option maxHeartbeats 4000000 in
set_option maxRecDepth 100000 in
theorem m9_init (l : Launch) (D : va_G) (cI cL cP : ClassId) (b0 : Nat) (sz : Nat) : Met l yX9_init wsX9_init ({ frames := 1, cells := 1, slots := 100, locals := 12 }) (va_Pc [.ref b0] (pM D cI cL cP sz (wF [[(b0, .inr (9, [.null, .int 0, .int 0, .int 0, .int 0, .int 0, .int 0]))]]))) (va_Qv (fun (w : Nat × ST) => w.2 = F9_init) (qW D (va_A (wF [[(b0, .inr (9, [.null, .int 0, .int 0, .int 0, .int 0, .int 0, .int 0]))]]) sz) (fun w : Nat × ST => (wF [gT cI b0 w.1 w.2]))) (va_A (wF [[(b0, .inr (9, [.null, .int 0, .int 0, .int 0, .int 0, .int 0, .int 0]))]]) sz)) 1 100 (va_A (wF [[(b0, .inr (9, [.null, .int 0, .int 0, .int 0, .int 0, .int 0, .int 0]))]]) sz) := by
  refine Met.ofW (cc := cX9_init) (maxL := 1) (ret := none) (by decide) rfl ?_
  intro p e s m args below meth c s₁ B hml hv
  obtain ⟨rfl, hsz, hP, hQ, hD0⟩ := hv
  have hx := B.exec
  have hb := B.bytes
  have hr := B.returns
  have hts := atoms_spec (ws := wsX9_init) B.pre
  have hown : s.vm.findClass RX9 = some m.cls := findClass_of_methodNamed B.named
  have hlocks := B.notSynchronized
  subst hsz
  have hD := hD0.self (sz := s.heap.size)
  generalize hAe : va_A (wF [[(b0, .inr (9, [.null, .int 0, .int 0, .int 0, .int 0, .int 0, .int 0]))]]) s.heap.size = A at hD ⊢
  have hA : ∀ q : Nat, s.heap.size ≤ q → A q := fun q h => by rw [← hAe]; exact Or.inr h
  have hS : va_S A s.heap s.heap [] := va_S.rf
  have hP : va_P D vwCl (wF [[(b0, .inr (9, [.null, .int 0, .int 0, .int 0, .int 0, .int 0, .int 0]))]]) s.heap := hP
  have hl := lv_entry ([.ref b0]) (n := 1) (Nat.le_of_ble_eq_true rfl)
  rw [lg_entry_eq]
  generalize (lg_sl ([.ref b0]) ++ List.replicate (1 - (lg_sl ([.ref b0])).length) Slot.unset).toArray = ls at hl ⊢
  have hl : lv_has ls 1 [(0, .ref b0)] := hl
  have hin : meth.name = "<init>" := (name_of_methodNamed B.named B.method).1
  have hinX9 : ∀ w ∈ wsX90, w ∈ wsX9_init := fun _ h => List.mem_cons_of_mem _ (List.mem_append_right _ h)
  refine lv_aload_n hx hb dX9_init_0 rfl (lv_at hl 0 rfl) ?_
  refine W.objInit hx hb hown (hts (.methodLink RX9 3 objectInit) (List.mem_of_getElem? (i := 1) rfl)) (hts (.instanceMethod objectInit) (List.mem_of_getElem? (i := 2) rfl)) (hts (.code objectInit ⟨#[0xb1]⟩ 1 none) (List.mem_of_getElem? (i := 3) rfl)) rfl (by rw [hml]; exact hl.1) rfl dX9_init_1 (Nat.le_of_ble_eq_true rfl) (Nat.le_of_ble_eq_true rfl) ?_
  refine W.eq (g2 := F0 m 4 ls []) rfl ?_
  refine lv_aload_n hx hb dX9_init_4 rfl (lv_at hl 0 rfl) ?_
  refine lv_bipush (v := (100 : Int32)) hx hb dX9_init_5 (by decide) ?_
  refine va_newa (atype := .int) (ty := .int) (a0 := (100, .inl (fun _ => (0 : Int32)))) (N' := 100) hx hb (hts (.arrayClass .int) (List.mem_of_getElem? (i := 4) rfl)) rfl hQ.1 hP hD hS hA (fun _ => vp_cell_i _ _ _) (by decide) (by decide) (Nat.le_of_ble_eq_true rfl) (Nat.le_of_ble_eq_true rfl) (Nat.le_of_ble_eq_true rfl) dX9_init_7 (fun q1 cA H hK9 hP hD hS => ?_)
  have hcA : cI = cA := (w_arrI hK9).symm
  subst hcA
  refine W.widen (k := 1) (n := 100) (by omega) (by omega) ?_
  have hP : va_P D vwCl (wF [[(b0, .inr (9, [.null, .int 0, .int 0, .int 0, .int 0, .int 0, .int 0]))], gI cI q1 100 (fun _ => (0 : Int32))]) H := hP
  have hD : va_D A (wF [[(b0, .inr (9, [.null, .int 0, .int 0, .int 0, .int 0, .int 0, .int 0]))], gI cI q1 100 (fun _ => (0 : Int32))]) := hD
  refine va_putF (D := D) (ci := 9) (v := .ref q1) (ty := .array .int) (C := RX9) (T := TX9) (N := 7) hx hb hts hinX9 tyX9 tyX9_ok nmX9 hown hQ.1 hP hD hS 0 rfl rfl 0 (by decide) (hts (.fieldLink RX9 11 "HeatPumpPlant$WeatherSheet" "codes" "[I") (List.mem_of_getElem? (i := 5) rfl)) (fun _ h9 => h9) rfl hin rfl (by decide +kernel) rfl rfl (Nat.le_of_ble_eq_true rfl) dX9_init_9 (fun H locs hP hD hS => ?_)
  have hP : va_P D vwCl (wF [[(b0, .inr (9, [.ref q1, .int 0, .int 0, .int 0, .int 0, .int 0, .int 0]))], gI cI q1 100 (fun _ => (0 : Int32))]) H := hP
  have hD : va_D A (wF [[(b0, .inr (9, [.ref q1, .int 0, .int 0, .int 0, .int 0, .int 0, .int 0]))], gI cI q1 100 (fun _ => (0 : Int32))]) := hD
  have hP : va_P D vwCl (wF [gT cI b0 q1 ((fun _ => (0 : Int32)), (0 : Int32), (0 : Int32), (0 : Int32), (0 : Int32), (0 : Int32), (0 : Int32))]) H := hP
  have hD : va_D A (wF [gT cI b0 q1 ((fun _ => (0 : Int32)), (0 : Int32), (0 : Int32), (0 : Int32), (0 : Int32), (0 : Int32), (0 : Int32))]) := hD
  exact W.vret hx hb hr (fun t ht hW => ⟨⟨(q1, ((fun _ => (0 : Int32)), (0 : Int32), (0 : Int32), (0 : Int32), (0 : Int32), (0 : Int32), (0 : Int32))), rfl, ((rfl).symm), by rw [ht]; exact hP, hD⟩, hS.F ht⟩) hS.2.2 dX9_init_12
