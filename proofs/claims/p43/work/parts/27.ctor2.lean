/-- the tables stand apart from what a constructor writes -/
def pNz (D : va_G) (cI cL cP : ClassId) (sz : Nat) (ws : va_W) : State → Prop := fun U => pM D cI cL cP sz ws U ∧ zS (va_A ws sz) U U.heap
theorem pNz_blind {D : va_G} {cI cL cP : ClassId} {sz : Nat} {ws : va_W} {av : List Value} : FrameBlind (va_Pc av (pNz D cI cL cP sz ws)) := fun a u g mk q => ⟨q.1, (pM_blind (av := av) a u g mk ⟨q.1, q.2.1⟩).2, zS.moved (u := u) (U := u.calling g mk a) (Vm.Alike.refl u.vm) q.2.2⟩
def K1_init_1 (z2 : SB) : SB := z2
def F1_init : SB := (K1_init_1 (F1_refill ((fun _ => (0 : Int64)), (0 : Int32)) (700 : Int32) (300 : Int32)))
set_option maxHeartbeats 4000000 in
set_option maxRecDepth 100000 in
theorem m1_init (l : Launch) (D : va_G) (cI cL cP : ClassId) (b0 : Nat) (sz : Nat) : Met l yX1_init wsX1_init ({ frames := 1, cells := 1, slots := 4, locals := 23 }) (va_Pc [.ref b0] (pM D cI cL cP sz (wF [[(b0, .inr (1, [.null, .int 0]))]]))) (va_Qv (fun (w : Nat × SB) => w.2 = F1_init) (qW D (va_A (wF [[(b0, .inr (1, [.null, .int 0]))]]) sz) (fun w : Nat × SB => (wF [gB cL b0 w.1 w.2]))) (va_A (wF [[(b0, .inr (1, [.null, .int 0]))]]) sz)) 1 4 (va_A (wF [[(b0, .inr (1, [.null, .int 0]))]]) sz) := by
  refine Met.ofW (cc := cX1_init) (maxL := 1) (ret := none) (by decide) rfl ?_
  intro p e s m args below meth c s₁ B hml hv
  obtain ⟨rfl, hsz, hP, hQ, hD0⟩ := hv
  have hx := B.exec
  have hb := B.bytes
  have hr := B.returns
  have hts := atoms_spec (ws := wsX1_init) B.pre
  have hown : s.vm.findClass RX1 = some m.cls := findClass_of_methodNamed B.named
  have hlocks := B.notSynchronized
  subst hsz
  have hD := hD0.self (sz := s.heap.size)
  generalize hAe : va_A (wF [[(b0, .inr (1, [.null, .int 0]))]]) s.heap.size = A at hD ⊢
  have hA : ∀ q : Nat, s.heap.size ≤ q → A q := fun q h => by rw [← hAe]; exact Or.inr h
  have hS : va_S A s.heap s.heap [] := va_S.rf
  have hP : va_P D vwCl (wF [[(b0, .inr (1, [.null, .int 0]))]]) s.heap := hP
  have hl := lv_entry ([.ref b0]) (n := 1) (Nat.le_of_ble_eq_true rfl)
  rw [lg_entry_eq]
  generalize (lg_sl ([.ref b0]) ++ List.replicate (1 - (lg_sl ([.ref b0])).length) Slot.unset).toArray = ls at hl ⊢
  have hl : lv_has ls 1 [(0, .ref b0)] := hl
  have hin : meth.name = "<init>" := (name_of_methodNamed B.named B.method).1
  have hinX1 : ∀ w ∈ wsX10, w ∈ wsX1_init := fun _ h => List.mem_cons_of_mem _ (List.mem_append_right _ h)
  refine lv_aload_n hx hb dX1_init_0 rfl (lv_at hl 0 rfl) ?_
  refine W.objInit hx hb hown (hts (.methodLink RX1 3 objectInit) (List.mem_of_getElem? (i := 1) rfl)) (hts (.instanceMethod objectInit) (List.mem_of_getElem? (i := 2) rfl)) (hts (.code objectInit ⟨#[0xb1]⟩ 1 none) (List.mem_of_getElem? (i := 3) rfl)) rfl (by rw [hml]; exact hl.1) rfl dX1_init_1 (Nat.le_of_ble_eq_true rfl) (Nat.le_of_ble_eq_true rfl) ?_
  refine W.eq (g2 := F0 m 4 ls []) rfl ?_
  refine lv_aload_n hx hb dX1_init_4 rfl (lv_at hl 0 rfl) ?_
  refine lv_iconst (v := (4 : Int32)) hx hb dX1_init_5 (by decide) ?_
  refine va_newa (atype := .long) (ty := .long) (a0 := (4, .inr (.inl (fun _ => (0 : Int64))))) (N' := 4) hx hb (hts (.arrayClass .long) (List.mem_of_getElem? (i := 4) rfl)) rfl hQ.1 hP hD hS hA (fun _ => vp_cell_l _ _ _) (by decide) (by decide) (Nat.le_of_ble_eq_true rfl) (Nat.le_of_ble_eq_true rfl) (Nat.le_of_ble_eq_true rfl) dX1_init_6 (fun q1 cA H hK9 hP hD hS => ?_)
  have hcA : cL = cA := (w_arrL hK9).symm
  subst hcA
  refine W.widen (k := 1) (n := 4) (by omega) (by omega) ?_
  have hP : va_P D vwCl (wF [[(b0, .inr (1, [.null, .int 0]))], gLA cL q1 4 (fun _ => (0 : Int64))]) H := hP
  have hD : va_D A (wF [[(b0, .inr (1, [.null, .int 0]))], gLA cL q1 4 (fun _ => (0 : Int64))]) := hD
  refine va_putF (D := D) (ci := 1) (v := .ref q1) (ty := .array .long) (C := RX1) (T := TX1) (N := 2) hx hb hts hinX1 tyX1 tyX1_ok nmX1 hown hQ.1 hP hD hS 0 rfl rfl 0 (by decide) (hts (.fieldLink RX1 11 "HeatPumpPlant$Buffer" "energies" "[J") (List.mem_of_getElem? (i := 5) rfl)) (fun _ h9 => h9) rfl hin rfl (by decide +kernel) rfl rfl (Nat.le_of_ble_eq_true rfl) dX1_init_8 (fun H locs hP hD hS => ?_)
  have hP : va_P D vwCl (wF [[(b0, .inr (1, [.ref q1, .int 0]))], gLA cL q1 4 (fun _ => (0 : Int64))]) H := hP
  have hD : va_D A (wF [[(b0, .inr (1, [.ref q1, .int 0]))], gLA cL q1 4 (fun _ => (0 : Int64))]) := hD
  have hP : va_P D vwCl (wF [gB cL b0 q1 ((fun _ => (0 : Int64)), (0 : Int32))]) H := hP
  have hD : va_D A (wF [gB cL b0 q1 ((fun _ => (0 : Int64)), (0 : Int32))]) := hD
  refine lv_aload_n hx hb dX1_init_11 rfl (lv_at hl 0 rfl) ?_
  refine lv_sipush (v := (700 : Int32)) hx hb dX1_init_12 (by decide) ?_
  refine lv_sipush (v := (300 : Int32)) hx hb dX1_init_15 (by decide) ?_
  have hPc : va_P D vwCl (wF [gB cL b0 q1 ((fun _ => (0 : Int64)), (0 : Int32))]) H := w_psub hP [0] rfl
  have hDc : va_D A (wF [gB cL b0 q1 ((fun _ => (0 : Int64)), (0 : Int32))]) := w_gsub hD [0] rfl rfl
  refine c_Mv (F := F1_refill ((fun _ => (0 : Int64)), (0 : Int32)) (700 : Int32) (300 : Int32)) (G1 := (fun w => [gB cL b0 q1 w])) (Gr := []) (Gs' := fun z2 => [gB cL b0 q1 z2]) (va_runV (As := [.int (700 : Int32), .int (300 : Int32)]) (rest := []) ⟨hx, hb, hml, hown, hts⟩ (m1_refill l D cI cL cP b0 q1 ((fun _ => (0 : Int64)), (0 : Int32)) (700 : Int32) (300 : Int32) H.size) (cwV 2 hts gX1_init_X1_refill rfl rfl rfl (by decide +kernel) ⟨Nat.le_of_ble_eq_true rfl, Nat.le_of_ble_eq_true rfl⟩) (preM_V (q := (RX1, TX1, 2)) (q0 := 0) hQ hPc hDc rfl rfl) rfl rfl hl.1 rfl (lv_room (Nat.le_of_ble_eq_true rfl)) dX1_init_18 ⟨Nat.le_of_ble_eq_true rfl, Nat.le_of_ble_eq_true rfl⟩) hS hA hP hD [0] [] [0] rfl rfl rfl rfl rfl (fun _ => rfl) (fun z2 H locs hz2 hP hD hS => ?_)
  have hP : va_P D vwCl (wF [gB cL b0 q1 z2]) H := hP
  have hD : va_D A (wF [gB cL b0 q1 z2]) := hD
  exact W.vret hx hb hr (fun t ht hW => ⟨⟨(q1, z2), rfl, ((Eq.trans (congrArg (K1_init_1) hz2.symm) (rfl)).symm), by rw [ht]; exact hP, hD⟩, hS.F ht⟩) hS.2.2 dX1_init_21
def K3_init_4 (z3 : SS) (z4 : SS) (z5 : SS) (z6 : SS) : SK := (z5, z6, (2 : Int32))
def K3_init_3 (z3 : SS) (z4 : SS) (z5 : SS) : SK := (K3_init_4 z3 z4 z5 (F10_replace 6 z4 (1 : Int32) (250 : Int32)))
def K3_init_2 (z3 : SS) (z4 : SS) : SK := (K3_init_3 z3 z4 (F10_replace 6 z3 (1 : Int32) (200 : Int32)))
def K3_init_1 (z3 : SS) : SK := (K3_init_2 z3 (F10_replace 6 (fun _ => (0 : Int32)) (0 : Int32) (450 : Int32)))
def F3_init : SK := (K3_init_1 (F10_replace 6 (fun _ => (0 : Int32)) (0 : Int32) (-150 : Int32)))
set_option maxHeartbeats 4000000 in
set_option maxRecDepth 100000 in
theorem m3_init (l : Launch) (D : va_G) (cI cL cP : ClassId) (b0 : Nat) (sz : Nat) : Met l yX3_init wsX3_init ({ frames := 1, cells := 2, slots := 12, locals := 22 }) (va_Pc [.ref b0] (pM D cI cL cP sz (wF [[(b0, .inr (3, [.null, .null, .int 0]))]]))) (va_Qv (fun (w : Nat × Nat × SK) => w.2.2 = F3_init) (qW D (va_A (wF [[(b0, .inr (3, [.null, .null, .int 0]))]]) sz) (fun w : Nat × Nat × SK => (wF [gK cI b0 w.1 w.2.1 w.2.2]))) (va_A (wF [[(b0, .inr (3, [.null, .null, .int 0]))]]) sz)) 2 12 (va_A (wF [[(b0, .inr (3, [.null, .null, .int 0]))]]) sz) := by
  refine Met.ofW (cc := cX3_init) (maxL := 1) (ret := none) (by decide) rfl ?_
  intro p e s m args below meth c s₁ B hml hv
  obtain ⟨rfl, hsz, hP, hQ, hD0⟩ := hv
  have hx := B.exec
  have hb := B.bytes
  have hr := B.returns
  have hts := atoms_spec (ws := wsX3_init) B.pre
  have hown : s.vm.findClass RX3 = some m.cls := findClass_of_methodNamed B.named
  have hlocks := B.notSynchronized
  subst hsz
  have hD := hD0.self (sz := s.heap.size)
  generalize hAe : va_A (wF [[(b0, .inr (3, [.null, .null, .int 0]))]]) s.heap.size = A at hD ⊢
  have hA : ∀ q : Nat, s.heap.size ≤ q → A q := fun q h => by rw [← hAe]; exact Or.inr h
  have hS : va_S A s.heap s.heap [] := va_S.rf
  have hP : va_P D vwCl (wF [[(b0, .inr (3, [.null, .null, .int 0]))]]) s.heap := hP
  have hl := lv_entry ([.ref b0]) (n := 1) (Nat.le_of_ble_eq_true rfl)
  rw [lg_entry_eq]
  generalize (lg_sl ([.ref b0]) ++ List.replicate (1 - (lg_sl ([.ref b0])).length) Slot.unset).toArray = ls at hl ⊢
  have hl : lv_has ls 1 [(0, .ref b0)] := hl
  have hin : meth.name = "<init>" := (name_of_methodNamed B.named B.method).1
  have hinX3 : ∀ w ∈ wsX30, w ∈ wsX3_init := fun _ h => List.mem_cons_of_mem _ (List.mem_append_right _ h)
  refine lv_aload_n hx hb dX3_init_0 rfl (lv_at hl 0 rfl) ?_
  refine W.objInit hx hb hown (hts (.methodLink RX3 3 objectInit) (List.mem_of_getElem? (i := 1) rfl)) (hts (.instanceMethod objectInit) (List.mem_of_getElem? (i := 2) rfl)) (hts (.code objectInit ⟨#[0xb1]⟩ 1 none) (List.mem_of_getElem? (i := 3) rfl)) rfl (by rw [hml]; exact hl.1) rfl dX3_init_1 (Nat.le_of_ble_eq_true rfl) (Nat.le_of_ble_eq_true rfl) ?_
  refine W.eq (g2 := F0 m 4 ls []) rfl ?_
  refine lv_aload_n hx hb dX3_init_4 rfl (lv_at hl 0 rfl) ?_
  refine lv_bipush (v := (6 : Int32)) hx hb dX3_init_5 (by decide) ?_
  refine va_newa (atype := .int) (ty := .int) (a0 := (6, .inl (fun _ => (0 : Int32)))) (N' := 6) hx hb (hts (.arrayClass .int) (List.mem_of_getElem? (i := 4) rfl)) rfl hQ.1 hP hD hS hA (fun _ => vp_cell_i _ _ _) (by decide) (by decide) (Nat.le_of_ble_eq_true rfl) (Nat.le_of_ble_eq_true rfl) (Nat.le_of_ble_eq_true rfl) dX3_init_7 (fun q1 cA H hK9 hP hD hS => ?_)
  have hcA : cI = cA := (w_arrI hK9).symm
  subst hcA
  refine W.widen (k := 1) (n := 6) (by omega) (by omega) ?_
  have hP : va_P D vwCl (wF [[(b0, .inr (3, [.null, .null, .int 0]))], gI cI q1 6 (fun _ => (0 : Int32))]) H := hP
  have hD : va_D A (wF [[(b0, .inr (3, [.null, .null, .int 0]))], gI cI q1 6 (fun _ => (0 : Int32))]) := hD
  refine va_putF (D := D) (ci := 3) (v := .ref q1) (ty := .array .int) (C := RX3) (T := TX3) (N := 3) hx hb hts hinX3 tyX3 tyX3_ok nmX3 hown hQ.1 hP hD hS 0 rfl rfl 0 (by decide) (hts (.fieldLink RX3 11 "HeatPumpPlant$Curve" "outdoors" "[I") (List.mem_of_getElem? (i := 5) rfl)) (fun _ h9 => h9) rfl hin rfl (by decide +kernel) rfl rfl (Nat.le_of_ble_eq_true rfl) dX3_init_9 (fun H locs hP hD hS => ?_)
  have hP : va_P D vwCl (wF [[(b0, .inr (3, [.ref q1, .null, .int 0]))], gI cI q1 6 (fun _ => (0 : Int32))]) H := hP
  have hD : va_D A (wF [[(b0, .inr (3, [.ref q1, .null, .int 0]))], gI cI q1 6 (fun _ => (0 : Int32))]) := hD
  refine lv_aload_n hx hb dX3_init_12 rfl (lv_at hl 0 rfl) ?_
  refine lv_bipush (v := (6 : Int32)) hx hb dX3_init_13 (by decide) ?_
  refine va_newa (atype := .int) (ty := .int) (a0 := (6, .inl (fun _ => (0 : Int32)))) (N' := 6) hx hb (hts (.arrayClass .int) (List.mem_of_getElem? (i := 4) rfl)) rfl hQ.1 hP hD hS hA (fun _ => vp_cell_i _ _ _) (by decide) (by decide) (Nat.le_of_ble_eq_true rfl) (Nat.le_of_ble_eq_true rfl) (Nat.le_of_ble_eq_true rfl) dX3_init_15 (fun q2 cA H hK9 hP hD hS => ?_)
  have hcA : cI = cA := (w_arrI hK9).symm
  subst hcA
  refine W.widen (k := 2) (n := 12) (by omega) (by omega) ?_
  have hP : va_P D vwCl (wF [[(b0, .inr (3, [.ref q1, .null, .int 0]))], gI cI q1 6 (fun _ => (0 : Int32)), gI cI q2 6 (fun _ => (0 : Int32))]) H := hP
  have hD : va_D A (wF [[(b0, .inr (3, [.ref q1, .null, .int 0]))], gI cI q1 6 (fun _ => (0 : Int32)), gI cI q2 6 (fun _ => (0 : Int32))]) := hD
  refine va_putF (D := D) (ci := 3) (v := .ref q2) (ty := .array .int) (C := RX3) (T := TX3) (N := 3) hx hb hts hinX3 tyX3 tyX3_ok nmX3 hown hQ.1 hP hD hS 0 rfl rfl 1 (by decide) (hts (.fieldLink RX3 15 "HeatPumpPlant$Curve" "supplies" "[I") (List.mem_of_getElem? (i := 6) rfl)) (fun _ h9 => h9) rfl hin rfl (by decide +kernel) rfl rfl (Nat.le_of_ble_eq_true rfl) dX3_init_17 (fun H locs hP hD hS => ?_)
  have hP : va_P D vwCl (wF [[(b0, .inr (3, [.ref q1, .ref q2, .int 0]))], gI cI q1 6 (fun _ => (0 : Int32)), gI cI q2 6 (fun _ => (0 : Int32))]) H := hP
  have hD : va_D A (wF [[(b0, .inr (3, [.ref q1, .ref q2, .int 0]))], gI cI q1 6 (fun _ => (0 : Int32)), gI cI q2 6 (fun _ => (0 : Int32))]) := hD
  refine lv_aload_n hx hb dX3_init_20 rfl (lv_at hl 0 rfl) ?_
  refine lv_iconst (v := (2 : Int32)) hx hb dX3_init_21 (by decide) ?_
  refine va_put (D := D) (ci := 3) (v := .int (2 : Int32)) (ty := .int) (C := RX3) (T := TX3) (N := 3) hx hb hts hinX3 tyX3 tyX3_ok nmX3 hown hQ.1 hP hD hS 0 rfl rfl 2 (by decide) (hts (.fieldLink RX3 18 "HeatPumpPlant$Curve" "count" "I") (List.mem_of_getElem? (i := 7) rfl)) (fun _ h9 => h9) rfl (by decide +kernel) rfl rfl (Nat.le_of_ble_eq_true rfl) dX3_init_22 (fun H locs hP hD hS => ?_)
  have hP : va_P D vwCl (wF [[(b0, .inr (3, [.ref q1, .ref q2, .int (2 : Int32)]))], gI cI q1 6 (fun _ => (0 : Int32)), gI cI q2 6 (fun _ => (0 : Int32))]) H := hP
  have hD : va_D A (wF [[(b0, .inr (3, [.ref q1, .ref q2, .int (2 : Int32)]))], gI cI q1 6 (fun _ => (0 : Int32)), gI cI q2 6 (fun _ => (0 : Int32))]) := hD
  refine lv_aload_n hx hb dX3_init_25 rfl (lv_at hl 0 rfl) ?_
  refine va_get (D := D) (ci := 3) (v := .ref q1) (C := RX3) (T := TX3) (N := 3) hx hb hts hinX3 hown hQ.1 hP 0 rfl rfl 0 (by decide) (hts (.fieldLink RX3 11 "HeatPumpPlant$Curve" "outdoors" "[I") (List.mem_of_getElem? (i := 5) rfl)) (fun _ h9 => h9) rfl dX3_init_26 ?_
  refine lv_iconst (v := (0 : Int32)) hx hb dX3_init_29 (by decide) ?_
  refine lv_sipush (v := (-150 : Int32)) hx hb dX3_init_30 (by decide) ?_
  have hP : va_P D vwCl (wF [[(b0, .inr (3, [.ref q1, .ref q2, .int (2 : Int32)]))], gI cI q1 6 (fun _ => (0 : Int32)), gI cI q2 6 (fun _ => (0 : Int32))]) H := hP
  have hD : va_D A (wF [[(b0, .inr (3, [.ref q1, .ref q2, .int (2 : Int32)]))], gI cI q1 6 (fun _ => (0 : Int32)), gI cI q2 6 (fun _ => (0 : Int32))]) := hD
  have hPc : va_P D vwCl (wF [gI cI q1 6 (fun _ => (0 : Int32))]) H := w_psub hP [1] rfl
  have hDc : va_D A (wF [gI cI q1 6 (fun _ => (0 : Int32))]) := w_gsub hD [1] rfl rfl
  refine c_Mv (F := F10_replace 6 (fun _ => (0 : Int32)) (0 : Int32) (-150 : Int32)) (G1 := (fun w => [gI cI q1 6 w])) (Gr := [[(b0, .inr (3, [.ref q1, .ref q2, .int (2 : Int32)]))], gI cI q2 6 (fun _ => (0 : Int32))]) (Gs' := fun z3 => [[(b0, .inr (3, [.ref q1, .ref q2, .int (2 : Int32)]))], gI cI q1 6 z3, gI cI q2 6 (fun _ => (0 : Int32))]) (va_runSN (As := [.ref q1, .int (0 : Int32), .int (-150 : Int32)]) (rest := []) ⟨hx, hb, hml, hown, hts⟩ (m10_replace l D cI cL cP q1 6 (fun _ => (0 : Int32)) (0 : Int32) (-150 : Int32) (by decide) H.size) ⟨va_cnB 3 hts gX3_init_X10_replace_n22 rfl rfl rfl (hQ.2 (RX3, 22, yX10_replace, "HeatPumpPlant") (List.mem_of_getElem? (i := 2) rfl)) (hts (.initialized RX10) (List.mem_of_getElem? (i := 9) rfl)) (by decide +kernel) ⟨Nat.le_of_ble_eq_true rfl, Nat.le_of_ble_eq_true rfl⟩, (hts (.static yX10_replace) (List.mem_of_getElem? (i := 8) rfl)), trivial⟩ (preM_S hQ hPc hDc) rfl rfl hl.1 rfl (lv_room (Nat.le_of_ble_eq_true rfl)) dX3_init_33 ⟨Nat.le_of_ble_eq_true rfl, Nat.le_of_ble_eq_true rfl⟩) hS hA hP hD [1] [0, 2] [1, 0, 2] rfl rfl rfl rfl rfl (fun _ => rfl) (fun z3 H locs hz3 hP hD hS => ?_)
  have hP : va_P D vwCl (wF [[(b0, .inr (3, [.ref q1, .ref q2, .int (2 : Int32)]))], gI cI q1 6 z3, gI cI q2 6 (fun _ => (0 : Int32))]) H := hP
  have hD : va_D A (wF [[(b0, .inr (3, [.ref q1, .ref q2, .int (2 : Int32)]))], gI cI q1 6 z3, gI cI q2 6 (fun _ => (0 : Int32))]) := hD
  refine lv_aload_n hx hb dX3_init_36 rfl (lv_at hl 0 rfl) ?_
  refine va_get (D := D) (ci := 3) (v := .ref q2) (C := RX3) (T := TX3) (N := 3) hx hb hts hinX3 hown hQ.1 hP 0 rfl rfl 1 (by decide) (hts (.fieldLink RX3 15 "HeatPumpPlant$Curve" "supplies" "[I") (List.mem_of_getElem? (i := 6) rfl)) (fun _ h9 => h9) rfl dX3_init_37 ?_
  refine lv_iconst (v := (0 : Int32)) hx hb dX3_init_40 (by decide) ?_
  refine lv_sipush (v := (450 : Int32)) hx hb dX3_init_41 (by decide) ?_
  have hP : va_P D vwCl (wF [[(b0, .inr (3, [.ref q1, .ref q2, .int (2 : Int32)]))], gI cI q1 6 z3, gI cI q2 6 (fun _ => (0 : Int32))]) H := hP
  have hD : va_D A (wF [[(b0, .inr (3, [.ref q1, .ref q2, .int (2 : Int32)]))], gI cI q1 6 z3, gI cI q2 6 (fun _ => (0 : Int32))]) := hD
  have hPc : va_P D vwCl (wF [gI cI q2 6 (fun _ => (0 : Int32))]) H := w_psub hP [2] rfl
  have hDc : va_D A (wF [gI cI q2 6 (fun _ => (0 : Int32))]) := w_gsub hD [2] rfl rfl
  refine c_Mv (F := F10_replace 6 (fun _ => (0 : Int32)) (0 : Int32) (450 : Int32)) (G1 := (fun w => [gI cI q2 6 w])) (Gr := [[(b0, .inr (3, [.ref q1, .ref q2, .int (2 : Int32)]))], gI cI q1 6 z3]) (Gs' := fun z4 => [[(b0, .inr (3, [.ref q1, .ref q2, .int (2 : Int32)]))], gI cI q1 6 z3, gI cI q2 6 z4]) (va_runSN (As := [.ref q2, .int (0 : Int32), .int (450 : Int32)]) (rest := []) ⟨hx, hb, hml, hown, hts⟩ (m10_replace l D cI cL cP q2 6 (fun _ => (0 : Int32)) (0 : Int32) (450 : Int32) (by decide) H.size) ⟨va_cnB 3 hts gX3_init_X10_replace_n22 rfl rfl rfl (hQ.2 (RX3, 22, yX10_replace, "HeatPumpPlant") (List.mem_of_getElem? (i := 2) rfl)) (hts (.initialized RX10) (List.mem_of_getElem? (i := 9) rfl)) (by decide +kernel) ⟨Nat.le_of_ble_eq_true rfl, Nat.le_of_ble_eq_true rfl⟩, (hts (.static yX10_replace) (List.mem_of_getElem? (i := 8) rfl)), trivial⟩ (preM_S hQ hPc hDc) rfl rfl hl.1 rfl (lv_room (Nat.le_of_ble_eq_true rfl)) dX3_init_44 ⟨Nat.le_of_ble_eq_true rfl, Nat.le_of_ble_eq_true rfl⟩) hS hA hP hD [2] [0, 1] [1, 2, 0] rfl rfl rfl rfl rfl (fun _ => rfl) (fun z4 H locs hz4 hP hD hS => ?_)
  have hP : va_P D vwCl (wF [[(b0, .inr (3, [.ref q1, .ref q2, .int (2 : Int32)]))], gI cI q1 6 z3, gI cI q2 6 z4]) H := hP
  have hD : va_D A (wF [[(b0, .inr (3, [.ref q1, .ref q2, .int (2 : Int32)]))], gI cI q1 6 z3, gI cI q2 6 z4]) := hD
  refine lv_aload_n hx hb dX3_init_47 rfl (lv_at hl 0 rfl) ?_
  refine va_get (D := D) (ci := 3) (v := .ref q1) (C := RX3) (T := TX3) (N := 3) hx hb hts hinX3 hown hQ.1 hP 0 rfl rfl 0 (by decide) (hts (.fieldLink RX3 11 "HeatPumpPlant$Curve" "outdoors" "[I") (List.mem_of_getElem? (i := 5) rfl)) (fun _ h9 => h9) rfl dX3_init_48 ?_
  refine lv_iconst (v := (1 : Int32)) hx hb dX3_init_51 (by decide) ?_
  refine lv_sipush (v := (200 : Int32)) hx hb dX3_init_52 (by decide) ?_
  have hP : va_P D vwCl (wF [[(b0, .inr (3, [.ref q1, .ref q2, .int (2 : Int32)]))], gI cI q1 6 z3, gI cI q2 6 z4]) H := hP
  have hD : va_D A (wF [[(b0, .inr (3, [.ref q1, .ref q2, .int (2 : Int32)]))], gI cI q1 6 z3, gI cI q2 6 z4]) := hD
  have hPc : va_P D vwCl (wF [gI cI q1 6 z3]) H := w_psub hP [1] rfl
  have hDc : va_D A (wF [gI cI q1 6 z3]) := w_gsub hD [1] rfl rfl
  refine c_Mv (F := F10_replace 6 z3 (1 : Int32) (200 : Int32)) (G1 := (fun w => [gI cI q1 6 w])) (Gr := [[(b0, .inr (3, [.ref q1, .ref q2, .int (2 : Int32)]))], gI cI q2 6 z4]) (Gs' := fun z5 => [[(b0, .inr (3, [.ref q1, .ref q2, .int (2 : Int32)]))], gI cI q1 6 z5, gI cI q2 6 z4]) (va_runSN (As := [.ref q1, .int (1 : Int32), .int (200 : Int32)]) (rest := []) ⟨hx, hb, hml, hown, hts⟩ (m10_replace l D cI cL cP q1 6 z3 (1 : Int32) (200 : Int32) (by decide) H.size) ⟨va_cnB 3 hts gX3_init_X10_replace_n22 rfl rfl rfl (hQ.2 (RX3, 22, yX10_replace, "HeatPumpPlant") (List.mem_of_getElem? (i := 2) rfl)) (hts (.initialized RX10) (List.mem_of_getElem? (i := 9) rfl)) (by decide +kernel) ⟨Nat.le_of_ble_eq_true rfl, Nat.le_of_ble_eq_true rfl⟩, (hts (.static yX10_replace) (List.mem_of_getElem? (i := 8) rfl)), trivial⟩ (preM_S hQ hPc hDc) rfl rfl hl.1 rfl (lv_room (Nat.le_of_ble_eq_true rfl)) dX3_init_55 ⟨Nat.le_of_ble_eq_true rfl, Nat.le_of_ble_eq_true rfl⟩) hS hA hP hD [1] [0, 2] [1, 0, 2] rfl rfl rfl rfl rfl (fun _ => rfl) (fun z5 H locs hz5 hP hD hS => ?_)
  have hP : va_P D vwCl (wF [[(b0, .inr (3, [.ref q1, .ref q2, .int (2 : Int32)]))], gI cI q1 6 z5, gI cI q2 6 z4]) H := hP
  have hD : va_D A (wF [[(b0, .inr (3, [.ref q1, .ref q2, .int (2 : Int32)]))], gI cI q1 6 z5, gI cI q2 6 z4]) := hD
  refine lv_aload_n hx hb dX3_init_58 rfl (lv_at hl 0 rfl) ?_
  refine va_get (D := D) (ci := 3) (v := .ref q2) (C := RX3) (T := TX3) (N := 3) hx hb hts hinX3 hown hQ.1 hP 0 rfl rfl 1 (by decide) (hts (.fieldLink RX3 15 "HeatPumpPlant$Curve" "supplies" "[I") (List.mem_of_getElem? (i := 6) rfl)) (fun _ h9 => h9) rfl dX3_init_59 ?_
  refine lv_iconst (v := (1 : Int32)) hx hb dX3_init_62 (by decide) ?_
  refine lv_sipush (v := (250 : Int32)) hx hb dX3_init_63 (by decide) ?_
  have hP : va_P D vwCl (wF [[(b0, .inr (3, [.ref q1, .ref q2, .int (2 : Int32)]))], gI cI q1 6 z5, gI cI q2 6 z4]) H := hP
  have hD : va_D A (wF [[(b0, .inr (3, [.ref q1, .ref q2, .int (2 : Int32)]))], gI cI q1 6 z5, gI cI q2 6 z4]) := hD
  have hPc : va_P D vwCl (wF [gI cI q2 6 z4]) H := w_psub hP [2] rfl
  have hDc : va_D A (wF [gI cI q2 6 z4]) := w_gsub hD [2] rfl rfl
  refine c_Mv (F := F10_replace 6 z4 (1 : Int32) (250 : Int32)) (G1 := (fun w => [gI cI q2 6 w])) (Gr := [[(b0, .inr (3, [.ref q1, .ref q2, .int (2 : Int32)]))], gI cI q1 6 z5]) (Gs' := fun z6 => [[(b0, .inr (3, [.ref q1, .ref q2, .int (2 : Int32)]))], gI cI q1 6 z5, gI cI q2 6 z6]) (va_runSN (As := [.ref q2, .int (1 : Int32), .int (250 : Int32)]) (rest := []) ⟨hx, hb, hml, hown, hts⟩ (m10_replace l D cI cL cP q2 6 z4 (1 : Int32) (250 : Int32) (by decide) H.size) ⟨va_cnB 3 hts gX3_init_X10_replace_n22 rfl rfl rfl (hQ.2 (RX3, 22, yX10_replace, "HeatPumpPlant") (List.mem_of_getElem? (i := 2) rfl)) (hts (.initialized RX10) (List.mem_of_getElem? (i := 9) rfl)) (by decide +kernel) ⟨Nat.le_of_ble_eq_true rfl, Nat.le_of_ble_eq_true rfl⟩, (hts (.static yX10_replace) (List.mem_of_getElem? (i := 8) rfl)), trivial⟩ (preM_S hQ hPc hDc) rfl rfl hl.1 rfl (lv_room (Nat.le_of_ble_eq_true rfl)) dX3_init_66 ⟨Nat.le_of_ble_eq_true rfl, Nat.le_of_ble_eq_true rfl⟩) hS hA hP hD [2] [0, 1] [1, 2, 0] rfl rfl rfl rfl rfl (fun _ => rfl) (fun z6 H locs hz6 hP hD hS => ?_)
  have hP : va_P D vwCl (wF [[(b0, .inr (3, [.ref q1, .ref q2, .int (2 : Int32)]))], gI cI q1 6 z5, gI cI q2 6 z6]) H := hP
  have hD : va_D A (wF [[(b0, .inr (3, [.ref q1, .ref q2, .int (2 : Int32)]))], gI cI q1 6 z5, gI cI q2 6 z6]) := hD
  have hP : va_P D vwCl (wF [gK cI b0 q1 q2 (z5, z6, (2 : Int32))]) H := hP
  have hD : va_D A (wF [gK cI b0 q1 q2 (z5, z6, (2 : Int32))]) := hD
  exact W.vret hx hb hr (fun t ht hW => ⟨⟨(q1, q2, (z5, z6, (2 : Int32))), rfl, ((Eq.trans (congrArg (K3_init_1) hz3.symm) (Eq.trans (congrArg (K3_init_2 z3) hz4.symm) (Eq.trans (congrArg (K3_init_3 z3 z4) hz5.symm) (Eq.trans (congrArg (K3_init_4 z3 z4 z5) hz6.symm) (rfl))))).symm), by rw [ht]; exact hP, hD⟩, hS.F ht⟩) hS.2.2 dX3_init_69
def K8_init_5 (z4 : SS) (z5 : SS) (z6 : SS) (z7 : SS) (z8 : SS) : SW := (z4, z5, z8)
def K8_init_4 (z4 : SS) (z5 : SS) (z6 : SS) (z7 : SS) : SW := (K8_init_5 z4 z5 z6 z7 (F10_replace 3 z7 (2 : Int32) (40 : Int32)))
def K8_init_3 (z4 : SS) (z5 : SS) (z6 : SS) : SW := (K8_init_4 z4 z5 z6 (F10_replace 3 z6 (1 : Int32) (20 : Int32)))
def K8_init_2 (z4 : SS) (z5 : SS) : SW := (K8_init_3 z4 z5 (F10_replace 3 (fun _ => (0 : Int32)) (0 : Int32) (10 : Int32)))
def K8_init_1 (z4 : SS) : SW := (K8_init_2 z4 (F10_setAll 24 (fun _ => (0 : Int32)) (1 : Int32)))
def F8_init : SW := (K8_init_1 (F10_setAll 24 (fun _ => (0 : Int32)) (50 : Int32)))
set_option maxHeartbeats 4000000 in
set_option maxRecDepth 100000 in
theorem m8_init (l : Launch) (D : va_G) (cI cL cP : ClassId) (b0 : Nat) (sz : Nat) : Met l yX8_init wsX8_init ({ frames := 1, cells := 3, slots := 51, locals := 22 }) (va_Pc [.ref b0] (pM D cI cL cP sz (wF [[(b0, .inr (8, [.null, .null, .null]))]]))) (va_Qv (fun (w : Nat × Nat × Nat × SW) => w.2.2.2 = F8_init) (qW D (va_A (wF [[(b0, .inr (8, [.null, .null, .null]))]]) sz) (fun w : Nat × Nat × Nat × SW => (wF [gWe cI b0 w.1 w.2.1 w.2.2.1 w.2.2.2]))) (va_A (wF [[(b0, .inr (8, [.null, .null, .null]))]]) sz)) 3 51 (va_A (wF [[(b0, .inr (8, [.null, .null, .null]))]]) sz) := by
  refine Met.ofW (cc := cX8_init) (maxL := 1) (ret := none) (by decide) rfl ?_
  intro p e s m args below meth c s₁ B hml hv
  obtain ⟨rfl, hsz, hP, hQ, hD0⟩ := hv
  have hx := B.exec
  have hb := B.bytes
  have hr := B.returns
  have hts := atoms_spec (ws := wsX8_init) B.pre
  have hown : s.vm.findClass RX8 = some m.cls := findClass_of_methodNamed B.named
  have hlocks := B.notSynchronized
  subst hsz
  have hD := hD0.self (sz := s.heap.size)
  generalize hAe : va_A (wF [[(b0, .inr (8, [.null, .null, .null]))]]) s.heap.size = A at hD ⊢
  have hA : ∀ q : Nat, s.heap.size ≤ q → A q := fun q h => by rw [← hAe]; exact Or.inr h
  have hS : va_S A s.heap s.heap [] := va_S.rf
  have hP : va_P D vwCl (wF [[(b0, .inr (8, [.null, .null, .null]))]]) s.heap := hP
  have hl := lv_entry ([.ref b0]) (n := 1) (Nat.le_of_ble_eq_true rfl)
  rw [lg_entry_eq]
  generalize (lg_sl ([.ref b0]) ++ List.replicate (1 - (lg_sl ([.ref b0])).length) Slot.unset).toArray = ls at hl ⊢
  have hl : lv_has ls 1 [(0, .ref b0)] := hl
  have hin : meth.name = "<init>" := (name_of_methodNamed B.named B.method).1
  have hinX8 : ∀ w ∈ wsX80, w ∈ wsX8_init := fun _ h => List.mem_cons_of_mem _ (List.mem_append_right _ h)
  refine lv_aload_n hx hb dX8_init_0 rfl (lv_at hl 0 rfl) ?_
  refine W.objInit hx hb hown (hts (.methodLink RX8 3 objectInit) (List.mem_of_getElem? (i := 1) rfl)) (hts (.instanceMethod objectInit) (List.mem_of_getElem? (i := 2) rfl)) (hts (.code objectInit ⟨#[0xb1]⟩ 1 none) (List.mem_of_getElem? (i := 3) rfl)) rfl (by rw [hml]; exact hl.1) rfl dX8_init_1 (Nat.le_of_ble_eq_true rfl) (Nat.le_of_ble_eq_true rfl) ?_
  refine W.eq (g2 := F0 m 4 ls []) rfl ?_
  refine lv_aload_n hx hb dX8_init_4 rfl (lv_at hl 0 rfl) ?_
  refine lv_bipush (v := (24 : Int32)) hx hb dX8_init_5 (by decide) ?_
  refine va_newa (atype := .int) (ty := .int) (a0 := (24, .inl (fun _ => (0 : Int32)))) (N' := 24) hx hb (hts (.arrayClass .int) (List.mem_of_getElem? (i := 4) rfl)) rfl hQ.1 hP hD hS hA (fun _ => vp_cell_i _ _ _) (by decide) (by decide) (Nat.le_of_ble_eq_true rfl) (Nat.le_of_ble_eq_true rfl) (Nat.le_of_ble_eq_true rfl) dX8_init_7 (fun q1 cA H hK9 hP hD hS => ?_)
  have hcA : cI = cA := (w_arrI hK9).symm
  subst hcA
  refine W.widen (k := 1) (n := 24) (by omega) (by omega) ?_
  have hP : va_P D vwCl (wF [[(b0, .inr (8, [.null, .null, .null]))], gI cI q1 24 (fun _ => (0 : Int32))]) H := hP
  have hD : va_D A (wF [[(b0, .inr (8, [.null, .null, .null]))], gI cI q1 24 (fun _ => (0 : Int32))]) := hD
  refine va_putF (D := D) (ci := 8) (v := .ref q1) (ty := .array .int) (C := RX8) (T := TX8) (N := 3) hx hb hts hinX8 tyX8 tyX8_ok nmX8 hown hQ.1 hP hD hS 0 rfl rfl 0 (by decide) (hts (.fieldLink RX8 9 "HeatPumpPlant$Weather" "outdoors" "[I") (List.mem_of_getElem? (i := 5) rfl)) (fun _ h9 => h9) rfl hin rfl (by decide +kernel) rfl rfl (Nat.le_of_ble_eq_true rfl) dX8_init_9 (fun H locs hP hD hS => ?_)
  have hP : va_P D vwCl (wF [[(b0, .inr (8, [.ref q1, .null, .null]))], gI cI q1 24 (fun _ => (0 : Int32))]) H := hP
  have hD : va_D A (wF [[(b0, .inr (8, [.ref q1, .null, .null]))], gI cI q1 24 (fun _ => (0 : Int32))]) := hD
  refine lv_aload_n hx hb dX8_init_12 rfl (lv_at hl 0 rfl) ?_
  refine lv_bipush (v := (24 : Int32)) hx hb dX8_init_13 (by decide) ?_
  refine va_newa (atype := .int) (ty := .int) (a0 := (24, .inl (fun _ => (0 : Int32)))) (N' := 24) hx hb (hts (.arrayClass .int) (List.mem_of_getElem? (i := 4) rfl)) rfl hQ.1 hP hD hS hA (fun _ => vp_cell_i _ _ _) (by decide) (by decide) (Nat.le_of_ble_eq_true rfl) (Nat.le_of_ble_eq_true rfl) (Nat.le_of_ble_eq_true rfl) dX8_init_15 (fun q2 cA H hK9 hP hD hS => ?_)
  have hcA : cI = cA := (w_arrI hK9).symm
  subst hcA
  refine W.widen (k := 2) (n := 48) (by omega) (by omega) ?_
  have hP : va_P D vwCl (wF [[(b0, .inr (8, [.ref q1, .null, .null]))], gI cI q1 24 (fun _ => (0 : Int32)), gI cI q2 24 (fun _ => (0 : Int32))]) H := hP
  have hD : va_D A (wF [[(b0, .inr (8, [.ref q1, .null, .null]))], gI cI q1 24 (fun _ => (0 : Int32)), gI cI q2 24 (fun _ => (0 : Int32))]) := hD
  refine va_putF (D := D) (ci := 8) (v := .ref q2) (ty := .array .int) (C := RX8) (T := TX8) (N := 3) hx hb hts hinX8 tyX8 tyX8_ok nmX8 hown hQ.1 hP hD hS 0 rfl rfl 1 (by decide) (hts (.fieldLink RX8 15 "HeatPumpPlant$Weather" "tariffs" "[I") (List.mem_of_getElem? (i := 6) rfl)) (fun _ h9 => h9) rfl hin rfl (by decide +kernel) rfl rfl (Nat.le_of_ble_eq_true rfl) dX8_init_17 (fun H locs hP hD hS => ?_)
  have hP : va_P D vwCl (wF [[(b0, .inr (8, [.ref q1, .ref q2, .null]))], gI cI q1 24 (fun _ => (0 : Int32)), gI cI q2 24 (fun _ => (0 : Int32))]) H := hP
  have hD : va_D A (wF [[(b0, .inr (8, [.ref q1, .ref q2, .null]))], gI cI q1 24 (fun _ => (0 : Int32)), gI cI q2 24 (fun _ => (0 : Int32))]) := hD
  refine lv_aload_n hx hb dX8_init_20 rfl (lv_at hl 0 rfl) ?_
  refine lv_iconst (v := (3 : Int32)) hx hb dX8_init_21 (by decide) ?_
  refine va_newa (atype := .int) (ty := .int) (a0 := (3, .inl (fun _ => (0 : Int32)))) (N' := 3) hx hb (hts (.arrayClass .int) (List.mem_of_getElem? (i := 4) rfl)) rfl hQ.1 hP hD hS hA (fun _ => vp_cell_i _ _ _) (by decide) (by decide) (Nat.le_of_ble_eq_true rfl) (Nat.le_of_ble_eq_true rfl) (Nat.le_of_ble_eq_true rfl) dX8_init_22 (fun q3 cA H hK9 hP hD hS => ?_)
  have hcA : cI = cA := (w_arrI hK9).symm
  subst hcA
  refine W.widen (k := 3) (n := 51) (by omega) (by omega) ?_
  have hP : va_P D vwCl (wF [[(b0, .inr (8, [.ref q1, .ref q2, .null]))], gI cI q1 24 (fun _ => (0 : Int32)), gI cI q2 24 (fun _ => (0 : Int32)), gI cI q3 3 (fun _ => (0 : Int32))]) H := hP
  have hD : va_D A (wF [[(b0, .inr (8, [.ref q1, .ref q2, .null]))], gI cI q1 24 (fun _ => (0 : Int32)), gI cI q2 24 (fun _ => (0 : Int32)), gI cI q3 3 (fun _ => (0 : Int32))]) := hD
  refine va_putF (D := D) (ci := 8) (v := .ref q3) (ty := .array .int) (C := RX8) (T := TX8) (N := 3) hx hb hts hinX8 tyX8 tyX8_ok nmX8 hown hQ.1 hP hD hS 0 rfl rfl 2 (by decide) (hts (.fieldLink RX8 18 "HeatPumpPlant$Weather" "prices" "[I") (List.mem_of_getElem? (i := 7) rfl)) (fun _ h9 => h9) rfl hin rfl (by decide +kernel) rfl rfl (Nat.le_of_ble_eq_true rfl) dX8_init_24 (fun H locs hP hD hS => ?_)
  have hP : va_P D vwCl (wF [[(b0, .inr (8, [.ref q1, .ref q2, .ref q3]))], gI cI q1 24 (fun _ => (0 : Int32)), gI cI q2 24 (fun _ => (0 : Int32)), gI cI q3 3 (fun _ => (0 : Int32))]) H := hP
  have hD : va_D A (wF [[(b0, .inr (8, [.ref q1, .ref q2, .ref q3]))], gI cI q1 24 (fun _ => (0 : Int32)), gI cI q2 24 (fun _ => (0 : Int32)), gI cI q3 3 (fun _ => (0 : Int32))]) := hD
  refine lv_aload_n hx hb dX8_init_27 rfl (lv_at hl 0 rfl) ?_
  refine va_get (D := D) (ci := 8) (v := .ref q1) (C := RX8) (T := TX8) (N := 3) hx hb hts hinX8 hown hQ.1 hP 0 rfl rfl 0 (by decide) (hts (.fieldLink RX8 9 "HeatPumpPlant$Weather" "outdoors" "[I") (List.mem_of_getElem? (i := 5) rfl)) (fun _ h9 => h9) rfl dX8_init_28 ?_
  refine lv_bipush (v := (50 : Int32)) hx hb dX8_init_31 (by decide) ?_
  have hP : va_P D vwCl (wF [[(b0, .inr (8, [.ref q1, .ref q2, .ref q3]))], gI cI q1 24 (fun _ => (0 : Int32)), gI cI q2 24 (fun _ => (0 : Int32)), gI cI q3 3 (fun _ => (0 : Int32))]) H := hP
  have hD : va_D A (wF [[(b0, .inr (8, [.ref q1, .ref q2, .ref q3]))], gI cI q1 24 (fun _ => (0 : Int32)), gI cI q2 24 (fun _ => (0 : Int32)), gI cI q3 3 (fun _ => (0 : Int32))]) := hD
  have hPc : va_P D vwCl (wF [gI cI q1 24 (fun _ => (0 : Int32))]) H := w_psub hP [1] rfl
  have hDc : va_D A (wF [gI cI q1 24 (fun _ => (0 : Int32))]) := w_gsub hD [1] rfl rfl
  refine c_Mv (F := F10_setAll 24 (fun _ => (0 : Int32)) (50 : Int32)) (G1 := (fun w => [gI cI q1 24 w])) (Gr := [[(b0, .inr (8, [.ref q1, .ref q2, .ref q3]))], gI cI q2 24 (fun _ => (0 : Int32)), gI cI q3 3 (fun _ => (0 : Int32))]) (Gs' := fun z4 => [[(b0, .inr (8, [.ref q1, .ref q2, .ref q3]))], gI cI q1 24 z4, gI cI q2 24 (fun _ => (0 : Int32)), gI cI q3 3 (fun _ => (0 : Int32))]) (va_runSN (As := [.ref q1, .int (50 : Int32)]) (rest := []) ⟨hx, hb, hml, hown, hts⟩ (m10_setAll l D cI cL cP q1 24 (fun _ => (0 : Int32)) (50 : Int32) (by decide) H.size) ⟨va_cnB 2 hts gX8_init_X10_setAll_n21 rfl rfl rfl (hQ.2 (RX8, 21, yX10_setAll, "HeatPumpPlant") (List.mem_of_getElem? (i := 0) rfl)) (hts (.initialized RX10) (List.mem_of_getElem? (i := 9) rfl)) (by decide +kernel) ⟨Nat.le_of_ble_eq_true rfl, Nat.le_of_ble_eq_true rfl⟩, (hts (.static yX10_setAll) (List.mem_of_getElem? (i := 8) rfl)), trivial⟩ (preM_S hQ hPc hDc) rfl rfl hl.1 rfl (lv_room (Nat.le_of_ble_eq_true rfl)) dX8_init_33 ⟨Nat.le_of_ble_eq_true rfl, Nat.le_of_ble_eq_true rfl⟩) hS hA hP hD [1] [0, 2, 3] [1, 0, 2, 3] rfl rfl rfl rfl rfl (fun _ => rfl) (fun z4 H locs hz4 hP hD hS => ?_)
  have hP : va_P D vwCl (wF [[(b0, .inr (8, [.ref q1, .ref q2, .ref q3]))], gI cI q1 24 z4, gI cI q2 24 (fun _ => (0 : Int32)), gI cI q3 3 (fun _ => (0 : Int32))]) H := hP
  have hD : va_D A (wF [[(b0, .inr (8, [.ref q1, .ref q2, .ref q3]))], gI cI q1 24 z4, gI cI q2 24 (fun _ => (0 : Int32)), gI cI q3 3 (fun _ => (0 : Int32))]) := hD
  refine lv_aload_n hx hb dX8_init_36 rfl (lv_at hl 0 rfl) ?_
  refine va_get (D := D) (ci := 8) (v := .ref q2) (C := RX8) (T := TX8) (N := 3) hx hb hts hinX8 hown hQ.1 hP 0 rfl rfl 1 (by decide) (hts (.fieldLink RX8 15 "HeatPumpPlant$Weather" "tariffs" "[I") (List.mem_of_getElem? (i := 6) rfl)) (fun _ h9 => h9) rfl dX8_init_37 ?_
  refine lv_iconst (v := (1 : Int32)) hx hb dX8_init_40 (by decide) ?_
  have hP : va_P D vwCl (wF [[(b0, .inr (8, [.ref q1, .ref q2, .ref q3]))], gI cI q1 24 z4, gI cI q2 24 (fun _ => (0 : Int32)), gI cI q3 3 (fun _ => (0 : Int32))]) H := hP
  have hD : va_D A (wF [[(b0, .inr (8, [.ref q1, .ref q2, .ref q3]))], gI cI q1 24 z4, gI cI q2 24 (fun _ => (0 : Int32)), gI cI q3 3 (fun _ => (0 : Int32))]) := hD
  have hPc : va_P D vwCl (wF [gI cI q2 24 (fun _ => (0 : Int32))]) H := w_psub hP [2] rfl
  have hDc : va_D A (wF [gI cI q2 24 (fun _ => (0 : Int32))]) := w_gsub hD [2] rfl rfl
  refine c_Mv (F := F10_setAll 24 (fun _ => (0 : Int32)) (1 : Int32)) (G1 := (fun w => [gI cI q2 24 w])) (Gr := [[(b0, .inr (8, [.ref q1, .ref q2, .ref q3]))], gI cI q1 24 z4, gI cI q3 3 (fun _ => (0 : Int32))]) (Gs' := fun z5 => [[(b0, .inr (8, [.ref q1, .ref q2, .ref q3]))], gI cI q1 24 z4, gI cI q2 24 z5, gI cI q3 3 (fun _ => (0 : Int32))]) (va_runSN (As := [.ref q2, .int (1 : Int32)]) (rest := []) ⟨hx, hb, hml, hown, hts⟩ (m10_setAll l D cI cL cP q2 24 (fun _ => (0 : Int32)) (1 : Int32) (by decide) H.size) ⟨va_cnB 2 hts gX8_init_X10_setAll_n21 rfl rfl rfl (hQ.2 (RX8, 21, yX10_setAll, "HeatPumpPlant") (List.mem_of_getElem? (i := 0) rfl)) (hts (.initialized RX10) (List.mem_of_getElem? (i := 9) rfl)) (by decide +kernel) ⟨Nat.le_of_ble_eq_true rfl, Nat.le_of_ble_eq_true rfl⟩, (hts (.static yX10_setAll) (List.mem_of_getElem? (i := 8) rfl)), trivial⟩ (preM_S hQ hPc hDc) rfl rfl hl.1 rfl (lv_room (Nat.le_of_ble_eq_true rfl)) dX8_init_41 ⟨Nat.le_of_ble_eq_true rfl, Nat.le_of_ble_eq_true rfl⟩) hS hA hP hD [2] [0, 1, 3] [1, 2, 0, 3] rfl rfl rfl rfl rfl (fun _ => rfl) (fun z5 H locs hz5 hP hD hS => ?_)
  have hP : va_P D vwCl (wF [[(b0, .inr (8, [.ref q1, .ref q2, .ref q3]))], gI cI q1 24 z4, gI cI q2 24 z5, gI cI q3 3 (fun _ => (0 : Int32))]) H := hP
  have hD : va_D A (wF [[(b0, .inr (8, [.ref q1, .ref q2, .ref q3]))], gI cI q1 24 z4, gI cI q2 24 z5, gI cI q3 3 (fun _ => (0 : Int32))]) := hD
  refine lv_aload_n hx hb dX8_init_44 rfl (lv_at hl 0 rfl) ?_
  refine va_get (D := D) (ci := 8) (v := .ref q3) (C := RX8) (T := TX8) (N := 3) hx hb hts hinX8 hown hQ.1 hP 0 rfl rfl 2 (by decide) (hts (.fieldLink RX8 18 "HeatPumpPlant$Weather" "prices" "[I") (List.mem_of_getElem? (i := 7) rfl)) (fun _ h9 => h9) rfl dX8_init_45 ?_
  refine lv_iconst (v := (0 : Int32)) hx hb dX8_init_48 (by decide) ?_
  refine lv_bipush (v := (10 : Int32)) hx hb dX8_init_49 (by decide) ?_
  have hP : va_P D vwCl (wF [[(b0, .inr (8, [.ref q1, .ref q2, .ref q3]))], gI cI q1 24 z4, gI cI q2 24 z5, gI cI q3 3 (fun _ => (0 : Int32))]) H := hP
  have hD : va_D A (wF [[(b0, .inr (8, [.ref q1, .ref q2, .ref q3]))], gI cI q1 24 z4, gI cI q2 24 z5, gI cI q3 3 (fun _ => (0 : Int32))]) := hD
  have hPc : va_P D vwCl (wF [gI cI q3 3 (fun _ => (0 : Int32))]) H := w_psub hP [3] rfl
  have hDc : va_D A (wF [gI cI q3 3 (fun _ => (0 : Int32))]) := w_gsub hD [3] rfl rfl
  refine c_Mv (F := F10_replace 3 (fun _ => (0 : Int32)) (0 : Int32) (10 : Int32)) (G1 := (fun w => [gI cI q3 3 w])) (Gr := [[(b0, .inr (8, [.ref q1, .ref q2, .ref q3]))], gI cI q1 24 z4, gI cI q2 24 z5]) (Gs' := fun z6 => [[(b0, .inr (8, [.ref q1, .ref q2, .ref q3]))], gI cI q1 24 z4, gI cI q2 24 z5, gI cI q3 3 z6]) (va_runSN (As := [.ref q3, .int (0 : Int32), .int (10 : Int32)]) (rest := []) ⟨hx, hb, hml, hown, hts⟩ (m10_replace l D cI cL cP q3 3 (fun _ => (0 : Int32)) (0 : Int32) (10 : Int32) (by decide) H.size) ⟨va_cnB 3 hts gX8_init_X10_replace_n25 rfl rfl rfl (hQ.2 (RX8, 25, yX10_replace, "HeatPumpPlant") (List.mem_of_getElem? (i := 1) rfl)) (hts (.initialized RX10) (List.mem_of_getElem? (i := 9) rfl)) (by decide +kernel) ⟨Nat.le_of_ble_eq_true rfl, Nat.le_of_ble_eq_true rfl⟩, (hts (.static yX10_replace) (List.mem_of_getElem? (i := 11) rfl)), trivial⟩ (preM_S hQ hPc hDc) rfl rfl hl.1 rfl (lv_room (Nat.le_of_ble_eq_true rfl)) dX8_init_51 ⟨Nat.le_of_ble_eq_true rfl, Nat.le_of_ble_eq_true rfl⟩) hS hA hP hD [3] [0, 1, 2] [1, 2, 3, 0] rfl rfl rfl rfl rfl (fun _ => rfl) (fun z6 H locs hz6 hP hD hS => ?_)
  have hP : va_P D vwCl (wF [[(b0, .inr (8, [.ref q1, .ref q2, .ref q3]))], gI cI q1 24 z4, gI cI q2 24 z5, gI cI q3 3 z6]) H := hP
  have hD : va_D A (wF [[(b0, .inr (8, [.ref q1, .ref q2, .ref q3]))], gI cI q1 24 z4, gI cI q2 24 z5, gI cI q3 3 z6]) := hD
  refine lv_aload_n hx hb dX8_init_54 rfl (lv_at hl 0 rfl) ?_
  refine va_get (D := D) (ci := 8) (v := .ref q3) (C := RX8) (T := TX8) (N := 3) hx hb hts hinX8 hown hQ.1 hP 0 rfl rfl 2 (by decide) (hts (.fieldLink RX8 18 "HeatPumpPlant$Weather" "prices" "[I") (List.mem_of_getElem? (i := 7) rfl)) (fun _ h9 => h9) rfl dX8_init_55 ?_
  refine lv_iconst (v := (1 : Int32)) hx hb dX8_init_58 (by decide) ?_
  refine lv_bipush (v := (20 : Int32)) hx hb dX8_init_59 (by decide) ?_
  have hP : va_P D vwCl (wF [[(b0, .inr (8, [.ref q1, .ref q2, .ref q3]))], gI cI q1 24 z4, gI cI q2 24 z5, gI cI q3 3 z6]) H := hP
  have hD : va_D A (wF [[(b0, .inr (8, [.ref q1, .ref q2, .ref q3]))], gI cI q1 24 z4, gI cI q2 24 z5, gI cI q3 3 z6]) := hD
  have hPc : va_P D vwCl (wF [gI cI q3 3 z6]) H := w_psub hP [3] rfl
  have hDc : va_D A (wF [gI cI q3 3 z6]) := w_gsub hD [3] rfl rfl
  refine c_Mv (F := F10_replace 3 z6 (1 : Int32) (20 : Int32)) (G1 := (fun w => [gI cI q3 3 w])) (Gr := [[(b0, .inr (8, [.ref q1, .ref q2, .ref q3]))], gI cI q1 24 z4, gI cI q2 24 z5]) (Gs' := fun z7 => [[(b0, .inr (8, [.ref q1, .ref q2, .ref q3]))], gI cI q1 24 z4, gI cI q2 24 z5, gI cI q3 3 z7]) (va_runSN (As := [.ref q3, .int (1 : Int32), .int (20 : Int32)]) (rest := []) ⟨hx, hb, hml, hown, hts⟩ (m10_replace l D cI cL cP q3 3 z6 (1 : Int32) (20 : Int32) (by decide) H.size) ⟨va_cnB 3 hts gX8_init_X10_replace_n25 rfl rfl rfl (hQ.2 (RX8, 25, yX10_replace, "HeatPumpPlant") (List.mem_of_getElem? (i := 1) rfl)) (hts (.initialized RX10) (List.mem_of_getElem? (i := 9) rfl)) (by decide +kernel) ⟨Nat.le_of_ble_eq_true rfl, Nat.le_of_ble_eq_true rfl⟩, (hts (.static yX10_replace) (List.mem_of_getElem? (i := 11) rfl)), trivial⟩ (preM_S hQ hPc hDc) rfl rfl hl.1 rfl (lv_room (Nat.le_of_ble_eq_true rfl)) dX8_init_61 ⟨Nat.le_of_ble_eq_true rfl, Nat.le_of_ble_eq_true rfl⟩) hS hA hP hD [3] [0, 1, 2] [1, 2, 3, 0] rfl rfl rfl rfl rfl (fun _ => rfl) (fun z7 H locs hz7 hP hD hS => ?_)
  have hP : va_P D vwCl (wF [[(b0, .inr (8, [.ref q1, .ref q2, .ref q3]))], gI cI q1 24 z4, gI cI q2 24 z5, gI cI q3 3 z7]) H := hP
  have hD : va_D A (wF [[(b0, .inr (8, [.ref q1, .ref q2, .ref q3]))], gI cI q1 24 z4, gI cI q2 24 z5, gI cI q3 3 z7]) := hD
  refine lv_aload_n hx hb dX8_init_64 rfl (lv_at hl 0 rfl) ?_
  refine va_get (D := D) (ci := 8) (v := .ref q3) (C := RX8) (T := TX8) (N := 3) hx hb hts hinX8 hown hQ.1 hP 0 rfl rfl 2 (by decide) (hts (.fieldLink RX8 18 "HeatPumpPlant$Weather" "prices" "[I") (List.mem_of_getElem? (i := 7) rfl)) (fun _ h9 => h9) rfl dX8_init_65 ?_
  refine lv_iconst (v := (2 : Int32)) hx hb dX8_init_68 (by decide) ?_
  refine lv_bipush (v := (40 : Int32)) hx hb dX8_init_69 (by decide) ?_
  have hP : va_P D vwCl (wF [[(b0, .inr (8, [.ref q1, .ref q2, .ref q3]))], gI cI q1 24 z4, gI cI q2 24 z5, gI cI q3 3 z7]) H := hP
  have hD : va_D A (wF [[(b0, .inr (8, [.ref q1, .ref q2, .ref q3]))], gI cI q1 24 z4, gI cI q2 24 z5, gI cI q3 3 z7]) := hD
  have hPc : va_P D vwCl (wF [gI cI q3 3 z7]) H := w_psub hP [3] rfl
  have hDc : va_D A (wF [gI cI q3 3 z7]) := w_gsub hD [3] rfl rfl
  refine c_Mv (F := F10_replace 3 z7 (2 : Int32) (40 : Int32)) (G1 := (fun w => [gI cI q3 3 w])) (Gr := [[(b0, .inr (8, [.ref q1, .ref q2, .ref q3]))], gI cI q1 24 z4, gI cI q2 24 z5]) (Gs' := fun z8 => [[(b0, .inr (8, [.ref q1, .ref q2, .ref q3]))], gI cI q1 24 z4, gI cI q2 24 z5, gI cI q3 3 z8]) (va_runSN (As := [.ref q3, .int (2 : Int32), .int (40 : Int32)]) (rest := []) ⟨hx, hb, hml, hown, hts⟩ (m10_replace l D cI cL cP q3 3 z7 (2 : Int32) (40 : Int32) (by decide) H.size) ⟨va_cnB 3 hts gX8_init_X10_replace_n25 rfl rfl rfl (hQ.2 (RX8, 25, yX10_replace, "HeatPumpPlant") (List.mem_of_getElem? (i := 1) rfl)) (hts (.initialized RX10) (List.mem_of_getElem? (i := 9) rfl)) (by decide +kernel) ⟨Nat.le_of_ble_eq_true rfl, Nat.le_of_ble_eq_true rfl⟩, (hts (.static yX10_replace) (List.mem_of_getElem? (i := 11) rfl)), trivial⟩ (preM_S hQ hPc hDc) rfl rfl hl.1 rfl (lv_room (Nat.le_of_ble_eq_true rfl)) dX8_init_71 ⟨Nat.le_of_ble_eq_true rfl, Nat.le_of_ble_eq_true rfl⟩) hS hA hP hD [3] [0, 1, 2] [1, 2, 3, 0] rfl rfl rfl rfl rfl (fun _ => rfl) (fun z8 H locs hz8 hP hD hS => ?_)
  have hP : va_P D vwCl (wF [[(b0, .inr (8, [.ref q1, .ref q2, .ref q3]))], gI cI q1 24 z4, gI cI q2 24 z5, gI cI q3 3 z8]) H := hP
  have hD : va_D A (wF [[(b0, .inr (8, [.ref q1, .ref q2, .ref q3]))], gI cI q1 24 z4, gI cI q2 24 z5, gI cI q3 3 z8]) := hD
  have hP : va_P D vwCl (wF [gWe cI b0 q1 q2 q3 (z4, z5, z8)]) H := hP
  have hD : va_D A (wF [gWe cI b0 q1 q2 q3 (z4, z5, z8)]) := hD
  exact W.vret hx hb hr (fun t ht hW => ⟨⟨(q1, q2, q3, (z4, z5, z8)), rfl, ((Eq.trans (congrArg (K8_init_1) hz4.symm) (Eq.trans (congrArg (K8_init_2 z4) hz5.symm) (Eq.trans (congrArg (K8_init_3 z4 z5) hz6.symm) (Eq.trans (congrArg (K8_init_4 z4 z5 z6) hz7.symm) (Eq.trans (congrArg (K8_init_5 z4 z5 z6 z7) hz8.symm) (rfl)))))).symm), by rw [ht]; exact hP, hD⟩, hS.F ht⟩) hS.2.2 dX8_init_74
def F7_init : SS := (w_cp sFI (fun _ => (0 : Int32)) 17)
set_option maxHeartbeats 4000000 in
set_option maxRecDepth 100000 in
theorem m7_init (l : Launch) (D : va_G) (cI cL cP : ClassId) (b0 : Nat) (sz : Nat) : Met l yX7_init wsX7_init ({ frames := 1, cells := 1, slots := 17, locals := 12 }) (va_Pc [.ref b0] (pNz D cI cL cP sz (wF [[(b0, .inr (7, [.null]))]]))) (va_Qv (fun (w : Nat × SS) => w.2 = F7_init) (qW D (va_A (wF [[(b0, .inr (7, [.null]))]]) sz) (fun w : Nat × SS => (wF [gS cI b0 w.1 w.2]))) (va_A (wF [[(b0, .inr (7, [.null]))]]) sz)) 1 17 (va_A (wF [[(b0, .inr (7, [.null]))]]) sz) := by
  refine Met.ofW (cc := cX7_init) (maxL := 2) (ret := none) (by decide) rfl ?_
  intro p e s m args below meth c s₁ B hml hv
  obtain ⟨hv1, hv2, hzS⟩ := hv
  have hv := And.intro hv1 hv2
  clear hv1 hv2
  obtain ⟨rfl, hsz, hP, hQ, hD0⟩ := hv
  have hx := B.exec
  have hb := B.bytes
  have hr := B.returns
  have hts := atoms_spec (ws := wsX7_init) B.pre
  have hown : s.vm.findClass RX7 = some m.cls := findClass_of_methodNamed B.named
  have hlocks := B.notSynchronized
  subst hsz
  have hD := hD0.self (sz := s.heap.size)
  generalize hAe : va_A (wF [[(b0, .inr (7, [.null]))]]) s.heap.size = A at hD ⊢
  have hA : ∀ q : Nat, s.heap.size ≤ q → A q := fun q h => by rw [← hAe]; exact Or.inr h
  have hS : va_S A s.heap s.heap [] := va_S.rf
  have hP : va_P D vwCl (wF [[(b0, .inr (7, [.null]))]]) s.heap := hP
  have hl := lv_entry ([.ref b0]) (n := 2) (Nat.le_of_ble_eq_true rfl)
  rw [lg_entry_eq]
  generalize (lg_sl ([.ref b0]) ++ List.replicate (2 - (lg_sl ([.ref b0])).length) Slot.unset).toArray = ls at hl ⊢
  have hl : lv_has ls 2 [(0, .ref b0)] := hl
  rw [hAe] at hzS
  have hzS9 := hzS
  obtain ⟨tL, tM, tF, hzL, hzM, hzF, hTL, hTM, hTF, hAO⟩ := hzS
  have hin : meth.name = "<init>" := (name_of_methodNamed B.named B.method).1
  have hinX7 : ∀ w ∈ wsX70, w ∈ wsX7_init := fun _ h => List.mem_cons_of_mem _ (List.mem_append_right _ h)
  refine lv_aload_n hx hb dX7_init_0 rfl (lv_at hl 0 rfl) ?_
  refine W.objInit hx hb hown (hts (.methodLink RX7 1 objectInit) (List.mem_of_getElem? (i := 1) rfl)) (hts (.instanceMethod objectInit) (List.mem_of_getElem? (i := 2) rfl)) (hts (.code objectInit ⟨#[0xb1]⟩ 1 none) (List.mem_of_getElem? (i := 3) rfl)) rfl (by rw [hml]; exact hl.1) rfl dX7_init_1 (Nat.le_of_ble_eq_true rfl) (Nat.le_of_ble_eq_true rfl) ?_
  refine W.eq (g2 := F0 m 4 ls []) rfl ?_
  refine lv_aload_n hx hb dX7_init_4 rfl (lv_at hl 0 rfl) ?_
  refine lv_bipush (v := (17 : Int32)) hx hb dX7_init_5 (by decide) ?_
  refine va_newa (atype := .int) (ty := .int) (a0 := (17, .inl (fun _ => (0 : Int32)))) (N' := 17) hx hb (hts (.arrayClass .int) (List.mem_of_getElem? (i := 4) rfl)) rfl hQ.1 hP hD hS hA (fun _ => vp_cell_i _ _ _) (by decide) (by decide) (Nat.le_of_ble_eq_true rfl) (Nat.le_of_ble_eq_true rfl) (Nat.le_of_ble_eq_true rfl) dX7_init_7 (fun q1 cA H hK9 hP hD hS => ?_)
  have hcA : cI = cA := (w_arrI hK9).symm
  subst hcA
  refine W.widen (k := 1) (n := 17) (by omega) (by omega) ?_
  have hP : va_P D vwCl (wF [[(b0, .inr (7, [.null]))], gI cI q1 17 (fun _ => (0 : Int32))]) H := hP
  have hD : va_D A (wF [[(b0, .inr (7, [.null]))], gI cI q1 17 (fun _ => (0 : Int32))]) := hD
  refine va_putF (D := D) (ci := 7) (v := .ref q1) (ty := .array .int) (C := RX7) (T := TX7) (N := 1) hx hb hts hinX7 tyX7 tyX7_ok nmX7 hown hQ.1 hP hD hS 0 rfl rfl 0 (by decide) (hts (.fieldLink RX7 9 "HeatPumpPlant$Settings" "values" "[I") (List.mem_of_getElem? (i := 5) rfl)) (fun _ h9 => h9) rfl hin rfl (by decide +kernel) rfl rfl (Nat.le_of_ble_eq_true rfl) dX7_init_9 (fun H locs hP hD hS => ?_)
  have hP : va_P D vwCl (wF [[(b0, .inr (7, [.ref q1]))], gI cI q1 17 (fun _ => (0 : Int32))]) H := hP
  have hD : va_D A (wF [[(b0, .inr (7, [.ref q1]))], gI cI q1 17 (fun _ => (0 : Int32))]) := hD
  refine lv_iconst (v := (0 : Int32)) hx hb dX7_init_12 (by decide) ?_
  refine lv_istore_n (lv' := [(1, .int (0 : Int32)), (0, .ref b0)]) hx hb dX7_init_13 rfl hl (by decide) rfl (fun ls hl => ?_)
  rw [show (fun _ => (0 : Int32)) = (w_cp sFI (fun _ => (0 : Int32)) 0) from (w_cp0 sFI (fun _ => (0 : Int32)))] at hP hD
  have loop14 : ∀ (fu : Nat) (i : Nat) (hi : i ≤ 17) (hm : 17 - i < fu) , ∀ (H : Heap) (locs : List Loc) (_ : va_P D vwCl (wF [[(b0, .inr (7, [.ref q1]))], gI cI q1 17 (w_cp sFI (fun _ => (0 : Int32)) i)]) H) (_ : va_D A (wF [[(b0, .inr (7, [.ref q1]))], gI cI q1 17 (w_cp sFI (fun _ => (0 : Int32)) i)])) (_ : va_S A s.heap H locs) (ls : Array Slot) (_ : lv_has ls 2 [(1, .int (nI i)), (0, .ref b0)]), W p l e (headSpec wsX7_init ({ frames := 1, cells := 1, slots := 17, locals := 12 })).room s m #[.ref b0] below meth c H locs 1 17 (MQ below (va_Qv (fun (w : Nat × SS) => w.2 = F7_init) (qW D A (fun w : Nat × SS => (wF [gS cI b0 w.1 w.2]))) A) #[.ref b0] s 1 17 A) (F0 m 14 ls []) := by
    intro fu
    induction fu with
    | zero => intro i hi hm; exact absurd hm (by omega)
    | succ fu ih =>
      intro i hi hm  H locs hP hD hS ls hl
      refine lv_iload_n hx hb dX7_init_14 rfl (lv_at hl 0 rfl) ?_
      refine lv_aload_n hx hb dX7_init_15 rfl (lv_at hl 1 rfl) ?_
      refine va_get (D := D) (ci := 7) (v := .ref q1) (C := RX7) (T := TX7) (N := 1) hx hb hts hinX7 hown hQ.1 hP 0 rfl rfl 0 (by decide) (hts (.fieldLink RX7 9 "HeatPumpPlant$Settings" "values" "[I") (List.mem_of_getElem? (i := 5) rfl)) (fun _ h9 => h9) rfl dX7_init_16 ?_
      refine va_alen (v := (17 : Int32)) hx hb hQ.1 hP 1 0 rfl rfl rfl dX7_init_19 ?_
      refine lv_icmp_ge (tgt := 48) hx hb dX7_init_20 (by decide) (fun c2 => ?_) (fun c2 => ?_)
      · have c2 : 17 ≤ i := (nI_leI (a := 17) (b := i) (by omega) (by omega)).mp c2
        obtain rfl : i = 17 := by omega
        have hP : va_P D vwCl (wF [gS cI b0 q1 (w_cp sFI (fun _ => (0 : Int32)) 17)]) H := hP
        have hD : va_D A (wF [gS cI b0 q1 (w_cp sFI (fun _ => (0 : Int32)) 17)]) := hD
        exact W.vret hx hb hr (fun t ht hW => ⟨⟨(q1, (w_cp sFI (fun _ => (0 : Int32)) 17)), rfl, (rfl), by rw [ht]; exact hP, hD⟩, hS.F ht⟩) hS.2.2 dX7_init_48
      · have c2 : ¬ (17 ≤ i) := fun h9 => c2 ((nI_leI (a := 17) (b := i) (by omega) (by omega)).mpr h9)
        refine lv_iload_n hx hb dX7_init_23 rfl (lv_at hl 0 rfl) ?_
        refine va_gets (C := RX7) hx hb hzF hS hown (hts (.fieldLink RX7 13 "HeatPumpPlant$Settings" "FIRST" "[I") (List.mem_of_getElem? (i := 6) rfl)) (fun _ h9 => h9) dX7_init_24 ?_
        refine va_tlen (v := (17 : Int32)) hx hb hTF hS rfl dX7_init_27 ?_
        refine lv_icmp_ge (tgt := 48) hx hb dX7_init_28 (by decide) (fun c3 => ?_) (fun c3 => ?_)
        · have c3 : 17 ≤ i := (nI_leI (a := 17) (b := i) (by omega) (by omega)).mp c3
          obtain rfl : i = 17 := by omega
          have hP : va_P D vwCl (wF [gS cI b0 q1 (w_cp sFI (fun _ => (0 : Int32)) 17)]) H := hP
          have hD : va_D A (wF [gS cI b0 q1 (w_cp sFI (fun _ => (0 : Int32)) 17)]) := hD
          exact W.vret hx hb hr (fun t ht hW => ⟨⟨(q1, (w_cp sFI (fun _ => (0 : Int32)) 17)), rfl, (rfl), by rw [ht]; exact hP, hD⟩, hS.F ht⟩) hS.2.2 dX7_init_48
        · have c3 : ¬ (17 ≤ i) := fun h9 => c3 ((nI_leI (a := 17) (b := i) (by omega) (by omega)).mpr h9)
          refine lv_aload_n hx hb dX7_init_31 rfl (lv_at hl 1 rfl) ?_
          refine va_get (D := D) (ci := 7) (v := .ref q1) (C := RX7) (T := TX7) (N := 1) hx hb hts hinX7 hown hQ.1 hP 0 rfl rfl 0 (by decide) (hts (.fieldLink RX7 9 "HeatPumpPlant$Settings" "values" "[I") (List.mem_of_getElem? (i := 5) rfl)) (fun _ h9 => h9) rfl dX7_init_32 ?_
          refine lv_iload_n hx hb dX7_init_35 rfl (lv_at hl 0 rfl) ?_
          refine va_gets (C := RX7) hx hb hzF hS hown (hts (.fieldLink RX7 13 "HeatPumpPlant$Settings" "FIRST" "[I") (List.mem_of_getElem? (i := 6) rfl)) (fun _ h9 => h9) dX7_init_36 ?_
          refine lv_iload_n hx hb dX7_init_39 rfl (lv_at hl 0 rfl) ?_
          refine va_ti (v := .int (sFI i)) hx hb hTF hS (vp_in_nI (by omega) (by decide)) (congrArg (fun q => Value.int (sFI q)) (nI_clamp (by omega))) dX7_init_40 ?_
          refine w_iast (f := (w_cp sFI (fun _ => (0 : Int32)) i)) (j := i) hx hb hQ.1 hP hD hS 1 0 rfl rfl rfl (by omega) (by decide) dX7_init_41 (fun H locs hP hD hS => ?_)
          have hP : va_P D vwCl (wF [[(b0, .inr (7, [.ref q1]))], gI cI q1 17 (upd (w_cp sFI (fun _ => (0 : Int32)) i) i (sFI i))]) H := hP
          have hD : va_D A (wF [[(b0, .inr (7, [.ref q1]))], gI cI q1 17 (upd (w_cp sFI (fun _ => (0 : Int32)) i) i (sFI i))]) := hD
          refine lv_iinc (v := (nI (i + 1))) (lv' := [(1, .int (nI (i + 1))), (0, .ref b0)]) hx hb dX7_init_42 hl (k := 0) rfl (nI_add i 1) (by decide) rfl (fun ls hl => ?_)
          refine lv_goto (tgt := 14) hx hb dX7_init_45 (by decide) ?_
          rw [show (upd (w_cp sFI (fun _ => (0 : Int32)) i) i (sFI i)) = (w_cp sFI (fun _ => (0 : Int32)) (i + 1)) from (w_cp1 sFI (fun _ => (0 : Int32)) i)] at hP hD
          have hP : va_P D vwCl (wF [[(b0, .inr (7, [.ref q1]))], gI cI q1 17 (w_cp sFI (fun _ => (0 : Int32)) (i + 1))]) H := hP
          have hD : va_D A (wF [[(b0, .inr (7, [.ref q1]))], gI cI q1 17 (w_cp sFI (fun _ => (0 : Int32)) (i + 1))]) := hD
          exact ih (i + 1) (by omega) (by omega)  H locs hP hD hS ls (lv_sub hl [0, 1] rfl)
  have hP : va_P D vwCl (wF [[(b0, .inr (7, [.ref q1]))], gI cI q1 17 (w_cp sFI (fun _ => (0 : Int32)) 0)]) H := hP
  have hD : va_D A (wF [[(b0, .inr (7, [.ref q1]))], gI cI q1 17 (w_cp sFI (fun _ => (0 : Int32)) 0)]) := hD
  exact loop14 18 0 (by omega) (by omega)  H locs hP hD hS ls (lv_sub hl [0, 1] rfl)
