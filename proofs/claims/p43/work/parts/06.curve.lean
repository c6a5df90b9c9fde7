def L3_placeFor_2 (x0 : SK) (p1 : Int32) : Nat → Nat → Nat
  | 0, _ => default
  | fu + 1, i => (if x0.2.2 ≤ (nI i) then i else (if 6 ≤ i then i else (if p1 ≤ (x0.1 i) then i else ((L3_placeFor_2 x0 p1 fu) (i + 1)))))
def K3_placeFor_1 (x0 : SK) (p1 : Int32) (z4 : Nat) : Int32 := (nI z4)
def F3_placeFor (x0 : SK) (p1 : Int32) : Int32 := (K3_placeFor_1 x0 p1 (L3_placeFor_2 x0 p1 7 0))
set_option maxHeartbeats 4000000 in
set_option maxRecDepth 100000 in
theorem m3_placeFor (l : Launch) (D : va_G) (cI cL cP : ClassId) (b0 : Nat) (b1 : Nat) (b2 : Nat) (x0 : SK) (p1 : Int32) (H0 : Heap) : Met l yX3_placeFor wsX3_placeFor ({ frames := 0, cells := 0, slots := 0, locals := 0 }) (va_Pc [.ref b0, .int p1] (pR D cI cL cP H0 (wF [gK cI b0 b1 b2 x0]))) (va_Qi (fun (r : Int32) (_ : Unit) => r = F3_placeFor x0 p1) (qE H0) nF) 0 0 nF := by
  refine Met.ofW (cc := cX3_placeFor) (maxL := 3) (ret := (some .int)) (by decide) rfl ?_
  intro p e s m args below meth c s₁ B hml hv
  obtain ⟨rfl, rfl, hP, hQ⟩ := hv
  have hx := B.exec
  have hb := B.bytes
  have hr := B.returns
  have hts := atoms_spec (ws := wsX3_placeFor) B.pre
  have hown : s.vm.findClass RX3 = some m.cls := findClass_of_methodNamed B.named
  have hlocks := B.notSynchronized
  have hS : va_S nF s.heap s.heap [] := va_S.rf
  have hl := lv_entry ([.ref b0, .int p1]) (n := 3) (Nat.le_of_ble_eq_true rfl)
  rw [lg_entry_eq]
  generalize (lg_sl ([.ref b0, .int p1]) ++ List.replicate (3 - (lg_sl ([.ref b0, .int p1])).length) Slot.unset).toArray = ls at hl ⊢
  have hl : lv_has ls 3 [(0, .ref b0), (1, .int p1)] := hl
  have hinX3 : ∀ w ∈ wsX30, w ∈ wsX3_placeFor := fun _ h => List.mem_cons_of_mem _ (List.mem_append_right _ h)
  refine lv_iconst (v := (0 : Int32)) hx hb dX3_placeFor_0 (by decide) ?_
  refine lv_istore_n (lv' := [(2, .int (0 : Int32)), (0, .ref b0), (1, .int p1)]) hx hb dX3_placeFor_1 rfl hl (by decide) rfl (fun ls hl => ?_)
  have loop2 : ∀ (fu : Nat) (i : Nat) (hi : i ≤ 6) (hm : 6 - i < fu) (kk : ∀ z : Nat, z = L3_placeFor_2 x0 p1 fu i → ((z) ≤ 6) → ∀ (locs : List Loc) (_ : va_S nF s.heap s.heap locs) (ls : Array Slot) (_ : lv_has ls 3 [(2, .int (nI z)), (0, .ref b0), (1, .int p1)]), W p l e (headSpec wsX3_placeFor ({ frames := 0, cells := 0, slots := 0, locals := 0 })).room s m #[.ref b0, .int p1] below meth c s.heap locs 0 0 (MQ below (va_Qi (fun (r : Int32) (_ : Unit) => r = F3_placeFor x0 p1) (qE s.heap) nF) #[.ref b0, .int p1] s 0 0 nF) (F0 m 35 ls [])), ∀ (locs : List Loc) (_ : va_S nF s.heap s.heap locs) (ls : Array Slot) (_ : lv_has ls 3 [(2, .int (nI i)), (0, .ref b0), (1, .int p1)]), W p l e (headSpec wsX3_placeFor ({ frames := 0, cells := 0, slots := 0, locals := 0 })).room s m #[.ref b0, .int p1] below meth c s.heap locs 0 0 (MQ below (va_Qi (fun (r : Int32) (_ : Unit) => r = F3_placeFor x0 p1) (qE s.heap) nF) #[.ref b0, .int p1] s 0 0 nF) (F0 m 2 ls []) := by
    intro fu
    induction fu with
    | zero => intro i hi hm; exact absurd hm (by omega)
    | succ fu ih =>
      intro i hi hm kk locs hS ls hl
      refine lv_iload_n hx hb dX3_placeFor_2 rfl (lv_at hl 0 rfl) ?_
      refine lv_aload_n hx hb dX3_placeFor_3 rfl (lv_at hl 1 rfl) ?_
      refine va_get (D := D) (ci := 3) (v := .int x0.2.2) (C := RX3) (T := TX3) (N := 3) hx hb hts hinX3 hown hQ.1 hP 0 rfl rfl 2 (by decide) (hts (.fieldLink RX3 18 "HeatPumpPlant$Curve" "count" "I") (List.mem_of_getElem? (i := 1) rfl)) (fun _ h9 => h9) rfl dX3_placeFor_4 ?_
      refine lv_icmp_ge (tgt := 35) hx hb dX3_placeFor_7 (by decide) (fun c1 => ?_) (fun c1 => ?_)
      · have c1 : x0.2.2 ≤ (nI i) := c1
        exact kk i ((Eq.trans (if_pos c1) (rfl)).symm) hi locs hS ls (lv_sub hl [0, 1, 2] rfl)
      · have c1 : ¬ (x0.2.2 ≤ (nI i)) := c1
        refine lv_iload_n hx hb dX3_placeFor_10 rfl (lv_at hl 0 rfl) ?_
        refine lv_aload_n hx hb dX3_placeFor_11 rfl (lv_at hl 1 rfl) ?_
        refine va_get (D := D) (ci := 3) (v := .ref b1) (C := RX3) (T := TX3) (N := 3) hx hb hts hinX3 hown hQ.1 hP 0 rfl rfl 0 (by decide) (hts (.fieldLink RX3 11 "HeatPumpPlant$Curve" "outdoors" "[I") (List.mem_of_getElem? (i := 2) rfl)) (fun _ h9 => h9) rfl dX3_placeFor_12 ?_
        refine va_alen (v := (6 : Int32)) hx hb hQ.1 hP 1 0 rfl rfl rfl dX3_placeFor_15 ?_
        refine lv_icmp_ge (tgt := 35) hx hb dX3_placeFor_16 (by decide) (fun c2 => ?_) (fun c2 => ?_)
        · have c2 : 6 ≤ i := (nI_leI (a := 6) (b := i) (by omega) (by omega)).mp c2
          exact kk i ((Eq.trans (if_neg c1) (Eq.trans (if_pos c2) (rfl))).symm) hi locs hS ls (lv_sub hl [0, 1, 2] rfl)
        · have c2 : ¬ (6 ≤ i) := fun h9 => c2 ((nI_leI (a := 6) (b := i) (by omega) (by omega)).mpr h9)
          refine lv_aload_n hx hb dX3_placeFor_19 rfl (lv_at hl 1 rfl) ?_
          refine va_get (D := D) (ci := 3) (v := .ref b1) (C := RX3) (T := TX3) (N := 3) hx hb hts hinX3 hown hQ.1 hP 0 rfl rfl 0 (by decide) (hts (.fieldLink RX3 11 "HeatPumpPlant$Curve" "outdoors" "[I") (List.mem_of_getElem? (i := 2) rfl)) (fun _ h9 => h9) rfl dX3_placeFor_20 ?_
          refine lv_iload_n hx hb dX3_placeFor_23 rfl (lv_at hl 0 rfl) ?_
          refine w_iald (f := x0.1) (j := i) hx hb hQ.1 hP 1 0 rfl rfl rfl (by omega) (by decide) dX3_placeFor_24 ?_
          refine lv_iload_n hx hb dX3_placeFor_25 rfl (lv_at hl 2 rfl) ?_
          refine lv_icmp_ge (tgt := 35) hx hb dX3_placeFor_26 (by decide) (fun c3 => ?_) (fun c3 => ?_)
          · have c3 : p1 ≤ (x0.1 i) := c3
            exact kk i ((Eq.trans (if_neg c1) (Eq.trans (if_neg c2) (Eq.trans (if_pos c3) (rfl)))).symm) hi locs hS ls (lv_sub hl [0, 1, 2] rfl)
          · have c3 : ¬ (p1 ≤ (x0.1 i)) := c3
            refine lv_iinc (v := (nI (i + 1))) (lv' := [(2, .int (nI (i + 1))), (0, .ref b0), (1, .int p1)]) hx hb dX3_placeFor_29 hl (k := 0) rfl (nI_add i 1) (by decide) rfl (fun ls hl => ?_)
            refine lv_goto (tgt := 2) hx hb dX3_placeFor_32 (by decide) ?_
            exact ih (i + 1) (by omega) (by omega) (fun z hz => kk z (hz.trans ((Eq.trans (if_neg c1) (Eq.trans (if_neg c2) (Eq.trans (if_neg c3) (rfl)))).symm))) locs hS ls (lv_sub hl [0, 1, 2] rfl)
  refine loop2 7 0 (by omega) (by omega) (fun z4 hz4 hi_z4 locs hS ls hl => ?_) [] hS ls (lv_sub hl [0, 1, 2] rfl)
  refine lv_iload_n hx hb dX3_placeFor_35 rfl (lv_at hl 0 rfl) ?_
  exact W.iret (v := (nI z4)) hx hb hr (fun t ht hW => ⟨⟨(nI z4), (), rfl, ((Eq.trans (congrArg (K3_placeFor_1 x0 p1) hz4.symm) (rfl)).symm), ht⟩, hS.F ht⟩) hS.2.2 dX3_placeFor_36
def F3_has (x0 : SK) (p1 : Int32) : Bool := (if x0.2.2 ≤ (F3_placeFor x0 p1) then false else (if (F10_elementOr 6 x0.1 (F3_placeFor x0 p1) (-9999 : Int32)) = p1 then true else false))
set_option maxHeartbeats 4000000 in
set_option maxRecDepth 100000 in
theorem m3_has (l : Launch) (D : va_G) (cI cL cP : ClassId) (b0 : Nat) (b1 : Nat) (b2 : Nat) (x0 : SK) (p1 : Int32) (H0 : Heap) : Met l yX3_has wsX3_has ({ frames := 1, cells := 0, slots := 0, locals := 22 }) (va_Pc [.ref b0, .int p1] (pR D cI cL cP H0 (wF [gK cI b0 b1 b2 x0]))) (va_Qi (fun (r : Int32) (_ : Unit) => r = bI (F3_has x0 p1)) (qE H0) nF) 0 0 nF := by
  refine Met.ofW (cc := cX3_has) (maxL := 3) (ret := (some .boolean)) (by decide) rfl ?_
  intro p e s m args below meth c s₁ B hml hv
  obtain ⟨rfl, rfl, hP, hQ⟩ := hv
  have hx := B.exec
  have hb := B.bytes
  have hr := B.returns
  have hts := atoms_spec (ws := wsX3_has) B.pre
  have hown : s.vm.findClass RX3 = some m.cls := findClass_of_methodNamed B.named
  have hlocks := B.notSynchronized
  have hS : va_S nF s.heap s.heap [] := va_S.rf
  have hl := lv_entry ([.ref b0, .int p1]) (n := 3) (Nat.le_of_ble_eq_true rfl)
  rw [lg_entry_eq]
  generalize (lg_sl ([.ref b0, .int p1]) ++ List.replicate (3 - (lg_sl ([.ref b0, .int p1])).length) Slot.unset).toArray = ls at hl ⊢
  have hl : lv_has ls 3 [(0, .ref b0), (1, .int p1)] := hl
  have hinX3 : ∀ w ∈ wsX30, w ∈ wsX3_has := fun _ h => List.mem_cons_of_mem _ (List.mem_append_right _ h)
  refine lv_aload_n hx hb dX3_has_0 rfl (lv_at hl 0 rfl) ?_
  refine lv_iload_n hx hb dX3_has_1 rfl (lv_at hl 1 rfl) ?_
  have hPc : va_P D vwCl (wF [gK cI b0 b1 b2 x0]) s.heap := hP.sub [0, 1, 2] rfl
  refine c_Ri (va_runV (As := [.int p1]) (rest := []) ⟨hx, hb, hml, hown, hts⟩ (m3_placeFor l D cI cL cP b0 b1 b2 x0 p1 s.heap) (cwV 1 hts gX3_has_X3_placeFor rfl rfl rfl (by decide +kernel) ⟨Nat.le_of_ble_eq_true rfl, Nat.le_of_ble_eq_true rfl⟩) (preR_V (q := (RX3, TX3, 3)) (q0 := 0) hQ hPc rfl rfl) rfl rfl hl.1 rfl (lv_room (Nat.le_of_ble_eq_true rfl)) dX3_has_2 ⟨Nat.le_of_ble_eq_true rfl, Nat.le_of_ble_eq_true rfl⟩) hS (fun locs hS => ?_)
  refine lv_istore_n (lv' := [(2, .int (F3_placeFor x0 p1)), (0, .ref b0), (1, .int p1)]) hx hb dX3_has_5 rfl hl (by decide) rfl (fun ls hl => ?_)
  refine lv_iload_n hx hb dX3_has_6 rfl (lv_at hl 0 rfl) ?_
  refine lv_aload_n hx hb dX3_has_7 rfl (lv_at hl 1 rfl) ?_
  refine va_get (D := D) (ci := 3) (v := .int x0.2.2) (C := RX3) (T := TX3) (N := 3) hx hb hts hinX3 hown hQ.1 hP 0 rfl rfl 2 (by decide) (hts (.fieldLink RX3 18 "HeatPumpPlant$Curve" "count" "I") (List.mem_of_getElem? (i := 1) rfl)) (fun _ h9 => h9) rfl dX3_has_8 ?_
  refine lv_icmp_ge (tgt := 33) hx hb dX3_has_11 (by decide) (fun c1 => ?_) (fun c1 => ?_)
  · have c1 : x0.2.2 ≤ (F3_placeFor x0 p1) := c1
    refine lv_iconst (v := (0 : Int32)) hx hb dX3_has_33 (by decide) ?_
    exact W.zret (v := (0 : Int32)) (ty := .boolean) hx hb hr rfl (fun t ht hW => ⟨⟨(0 : Int32), (), rfl, ((congrArg bI (show F3_has x0 p1 = false from Eq.trans (if_pos c1) (rfl))).symm), ht⟩, hS.F ht⟩) hS.2.2 dX3_has_34
  · have c1 : ¬ (x0.2.2 ≤ (F3_placeFor x0 p1)) := c1
    refine lv_aload_n hx hb dX3_has_14 rfl (lv_at hl 1 rfl) ?_
    refine va_get (D := D) (ci := 3) (v := .ref b1) (C := RX3) (T := TX3) (N := 3) hx hb hts hinX3 hown hQ.1 hP 0 rfl rfl 0 (by decide) (hts (.fieldLink RX3 11 "HeatPumpPlant$Curve" "outdoors" "[I") (List.mem_of_getElem? (i := 2) rfl)) (fun _ h9 => h9) rfl dX3_has_15 ?_
    refine lv_iload_n hx hb dX3_has_18 rfl (lv_at hl 0 rfl) ?_
    refine lv_sipush (v := (-9999 : Int32)) hx hb dX3_has_19 (by decide) ?_
    have hPc : va_P D vwCl (wF [gI cI b1 6 x0.1]) s.heap := hP.sub [1] rfl
    refine c_Ri (va_runSN (As := [.ref b1, .int (F3_placeFor x0 p1), .int (-9999 : Int32)]) (rest := []) ⟨hx, hb, hml, hown, hts⟩ (m10_elementOr l D cI cL cP b1 6 x0.1 (F3_placeFor x0 p1) (-9999 : Int32) (by decide) s.heap) ⟨va_cnB 3 hts gX3_has_X10_elementOr_n34 rfl rfl rfl (hQ.2 (RX3, 34, yX10_elementOr, "HeatPumpPlant") (List.mem_of_getElem? (i := 13) rfl)) (hts (.initialized RX10) (List.mem_of_getElem? (i := 9) rfl)) (by decide +kernel) ⟨Nat.le_of_ble_eq_true rfl, Nat.le_of_ble_eq_true rfl⟩, (hts (.static yX10_elementOr) (List.mem_of_getElem? (i := 8) rfl)), trivial⟩ (preR_S hQ hPc) rfl rfl hl.1 rfl (lv_room (Nat.le_of_ble_eq_true rfl)) dX3_has_22 ⟨Nat.le_of_ble_eq_true rfl, Nat.le_of_ble_eq_true rfl⟩) hS (fun locs hS => ?_)
    refine lv_iload_n hx hb dX3_has_25 rfl (lv_at hl 2 rfl) ?_
    refine lv_icmp_ne (tgt := 33) hx hb dX3_has_26 (by decide) (fun c2 => ?_) (fun c2 => ?_)
    · have c2 : ¬ ((F10_elementOr 6 x0.1 (F3_placeFor x0 p1) (-9999 : Int32)) = p1) := c2
      refine lv_iconst (v := (0 : Int32)) hx hb dX3_has_33 (by decide) ?_
      exact W.zret (v := (0 : Int32)) (ty := .boolean) hx hb hr rfl (fun t ht hW => ⟨⟨(0 : Int32), (), rfl, ((congrArg bI (show F3_has x0 p1 = false from Eq.trans (if_neg c1) (Eq.trans (if_neg c2) (rfl)))).symm), ht⟩, hS.F ht⟩) hS.2.2 dX3_has_34
    · have c2 : (F10_elementOr 6 x0.1 (F3_placeFor x0 p1) (-9999 : Int32)) = p1 := c2
      refine lv_iconst (v := (1 : Int32)) hx hb dX3_has_29 (by decide) ?_
      refine lv_goto (tgt := 34) hx hb dX3_has_30 (by decide) ?_
      exact W.zret (v := (1 : Int32)) (ty := .boolean) hx hb hr rfl (fun t ht hW => ⟨⟨(1 : Int32), (), rfl, ((congrArg bI (show F3_has x0 p1 = true from Eq.trans (if_neg c1) (Eq.trans (if_pos c2) (rfl)))).symm), ht⟩, hS.F ht⟩) hS.2.2 dX3_has_34
def F3_hasRoomFor (x0 : SK) (p1 : Int32) : Bool := (if x0.2.2 < (6 : Int32) then true else (if (F3_has x0 p1) = true then true else false))
set_option maxHeartbeats 4000000 in
set_option maxRecDepth 100000 in
theorem m3_hasRoomFor (l : Launch) (D : va_G) (cI cL cP : ClassId) (b0 : Nat) (b1 : Nat) (b2 : Nat) (x0 : SK) (p1 : Int32) (H0 : Heap) : Met l yX3_hasRoomFor wsX3_hasRoomFor ({ frames := 2, cells := 0, slots := 0, locals := 44 }) (va_Pc [.ref b0, .int p1] (pR D cI cL cP H0 (wF [gK cI b0 b1 b2 x0]))) (va_Qi (fun (r : Int32) (_ : Unit) => r = bI (F3_hasRoomFor x0 p1)) (qE H0) nF) 0 0 nF := by
  refine Met.ofW (cc := cX3_hasRoomFor) (maxL := 2) (ret := (some .boolean)) (by decide) rfl ?_
  intro p e s m args below meth c s₁ B hml hv
  obtain ⟨rfl, rfl, hP, hQ⟩ := hv
  have hx := B.exec
  have hb := B.bytes
  have hr := B.returns
  have hts := atoms_spec (ws := wsX3_hasRoomFor) B.pre
  have hown : s.vm.findClass RX3 = some m.cls := findClass_of_methodNamed B.named
  have hlocks := B.notSynchronized
  have hS : va_S nF s.heap s.heap [] := va_S.rf
  have hl := lv_entry ([.ref b0, .int p1]) (n := 2) (Nat.le_of_ble_eq_true rfl)
  rw [lg_entry_eq]
  generalize (lg_sl ([.ref b0, .int p1]) ++ List.replicate (2 - (lg_sl ([.ref b0, .int p1])).length) Slot.unset).toArray = ls at hl ⊢
  have hl : lv_has ls 2 [(0, .ref b0), (1, .int p1)] := hl
  have hinX3 : ∀ w ∈ wsX30, w ∈ wsX3_hasRoomFor := fun _ h => List.mem_cons_of_mem _ (List.mem_append_right _ h)
  refine lv_aload_n hx hb dX3_hasRoomFor_0 rfl (lv_at hl 0 rfl) ?_
  refine va_get (D := D) (ci := 3) (v := .int x0.2.2) (C := RX3) (T := TX3) (N := 3) hx hb hts hinX3 hown hQ.1 hP 0 rfl rfl 2 (by decide) (hts (.fieldLink RX3 18 "HeatPumpPlant$Curve" "count" "I") (List.mem_of_getElem? (i := 1) rfl)) (fun _ h9 => h9) rfl dX3_hasRoomFor_1 ?_
  refine lv_bipush (v := (6 : Int32)) hx hb dX3_hasRoomFor_4 (by decide) ?_
  refine lv_icmp_lt (tgt := 17) hx hb dX3_hasRoomFor_6 (by decide) (fun c1 => ?_) (fun c1 => ?_)
  · have c1 : x0.2.2 < (6 : Int32) := c1
    refine lv_iconst (v := (1 : Int32)) hx hb dX3_hasRoomFor_17 (by decide) ?_
    refine lv_goto (tgt := 22) hx hb dX3_hasRoomFor_18 (by decide) ?_
    exact W.zret (v := (1 : Int32)) (ty := .boolean) hx hb hr rfl (fun t ht hW => ⟨⟨(1 : Int32), (), rfl, ((congrArg bI (show F3_hasRoomFor x0 p1 = true from Eq.trans (if_pos c1) (rfl))).symm), ht⟩, hS.F ht⟩) hS.2.2 dX3_hasRoomFor_22
  · have c1 : ¬ (x0.2.2 < (6 : Int32)) := c1
    refine lv_aload_n hx hb dX3_hasRoomFor_9 rfl (lv_at hl 0 rfl) ?_
    refine lv_iload_n hx hb dX3_hasRoomFor_10 rfl (lv_at hl 1 rfl) ?_
    have hPc : va_P D vwCl (wF [gK cI b0 b1 b2 x0]) s.heap := hP.sub [0, 1, 2] rfl
    refine c_Ri (va_runV (As := [.int p1]) (rest := []) ⟨hx, hb, hml, hown, hts⟩ (m3_has l D cI cL cP b0 b1 b2 x0 p1 s.heap) (cwV 1 hts gX3_hasRoomFor_X3_has rfl rfl rfl (by decide +kernel) ⟨Nat.le_of_ble_eq_true rfl, Nat.le_of_ble_eq_true rfl⟩) (preR_V (q := (RX3, TX3, 3)) (q0 := 0) hQ hPc rfl rfl) rfl rfl hl.1 rfl (lv_room (Nat.le_of_ble_eq_true rfl)) dX3_hasRoomFor_11 ⟨Nat.le_of_ble_eq_true rfl, Nat.le_of_ble_eq_true rfl⟩) hS (fun locs hS => ?_)
    refine lv_if_eq (tgt := 21) hx hb dX3_hasRoomFor_14 (by decide) (fun c2 => ?_) (fun c2 => ?_)
    · have c2 : ¬ ((F3_has x0 p1) = true) := bI_0.mp c2
      refine lv_iconst (v := (0 : Int32)) hx hb dX3_hasRoomFor_21 (by decide) ?_
      exact W.zret (v := (0 : Int32)) (ty := .boolean) hx hb hr rfl (fun t ht hW => ⟨⟨(0 : Int32), (), rfl, ((congrArg bI (show F3_hasRoomFor x0 p1 = false from Eq.trans (if_neg c1) (Eq.trans (if_neg c2) (rfl)))).symm), ht⟩, hS.F ht⟩) hS.2.2 dX3_hasRoomFor_22
    · have c2 : (F3_has x0 p1) = true := bI_1.mp c2
      refine lv_iconst (v := (1 : Int32)) hx hb dX3_hasRoomFor_17 (by decide) ?_
      refine lv_goto (tgt := 22) hx hb dX3_hasRoomFor_18 (by decide) ?_
      exact W.zret (v := (1 : Int32)) (ty := .boolean) hx hb hr rfl (fun t ht hW => ⟨⟨(1 : Int32), (), rfl, ((congrArg bI (show F3_hasRoomFor x0 p1 = true from Eq.trans (if_neg c1) (Eq.trans (if_pos c2) (rfl)))).symm), ht⟩, hS.F ht⟩) hS.2.2 dX3_hasRoomFor_22
def K3_moveUpFrom_2 (x0 : SK) (p1 : Int32) (i : Int32) (a : SS) (b : SS) (z2 : SS) (rec5 : Int32 → SS → SS → Int32 × SS × SS) (z3 : SS) : Int32 × SS × SS := (rec5 (i + (-1 : Int32)) z2 z3)
def K3_moveUpFrom_1 (x0 : SK) (p1 : Int32) (i : Int32) (a : SS) (b : SS) (rec5 : Int32 → SS → SS → Int32 × SS × SS) (z2 : SS) : Int32 × SS × SS := (K3_moveUpFrom_2 x0 p1 i a b z2 rec5 (F10_replace 6 b i (F10_elementOr 6 b (i - (1 : Int32)) (0 : Int32))))
def L3_moveUpFrom_5 (x0 : SK) (p1 : Int32) : Nat → Int32 → SS → SS → Int32 × SS × SS
  | 0, _, _, _ => default
  | fu + 1, i, a, b => (if i ≤ p1 then (i, a, b) else (K3_moveUpFrom_1 x0 p1 i a b (L3_moveUpFrom_5 x0 p1 fu) (F10_replace 6 a i (F10_elementOr 6 a (i - (1 : Int32)) (0 : Int32)))))
def K3_moveUpFrom_3 (x0 : SK) (p1 : Int32) (z4 : Int32 × SS × SS) : SK := (z4.2.1, z4.2.2, x0.2.2)
def F3_moveUpFrom (x0 : SK) (p1 : Int32) : SK := (K3_moveUpFrom_3 x0 p1 (L3_moveUpFrom_5 x0 p1 (((x0.2.2).toInt - p1.toInt).toNat + 1) x0.2.2 x0.1 x0.2.1))
set_option maxHeartbeats 4000000 in
set_option maxRecDepth 100000 in
theorem m3_moveUpFrom (l : Launch) (D : va_G) (cI cL cP : ClassId) (b0 : Nat) (b1 : Nat) (b2 : Nat) (x0 : SK) (p1 : Int32) (sz : Nat) : Met l yX3_moveUpFrom wsX3_moveUpFrom ({ frames := 1, cells := 0, slots := 0, locals := 22 }) (va_Pc [.ref b0, .int p1] (pM D cI cL cP sz (wF [gK cI b0 b1 b2 x0]))) (va_Qv (fun (w : SK) => w = F3_moveUpFrom x0 p1) (qW D (va_A (wF [gK cI b0 b1 b2 x0]) sz) (fun w : SK => (wF [gK cI b0 b1 b2 w]))) (va_A (wF [gK cI b0 b1 b2 x0]) sz)) 0 0 (va_A (wF [gK cI b0 b1 b2 x0]) sz) := by
  refine Met.ofW (cc := cX3_moveUpFrom) (maxL := 3) (ret := none) (by decide) rfl ?_
  intro p e s m args below meth c s₁ B hml hv
  obtain ⟨rfl, hsz, hP, hQ, hD0⟩ := hv
  have hx := B.exec
  have hb := B.bytes
  have hr := B.returns
  have hts := atoms_spec (ws := wsX3_moveUpFrom) B.pre
  have hown : s.vm.findClass RX3 = some m.cls := findClass_of_methodNamed B.named
  have hlocks := B.notSynchronized
  subst hsz
  have hD := hD0.self (sz := s.heap.size)
  generalize hAe : va_A (wF [gK cI b0 b1 b2 x0]) s.heap.size = A at hD ⊢
  have hA : ∀ q : Nat, s.heap.size ≤ q → A q := fun q h => by rw [← hAe]; exact Or.inr h
  have hS : va_S A s.heap s.heap [] := va_S.rf
  have hP : va_P D vwCl (wF [gK cI b0 b1 b2 x0]) s.heap := hP
  have hl := lv_entry ([.ref b0, .int p1]) (n := 3) (Nat.le_of_ble_eq_true rfl)
  rw [lg_entry_eq]
  generalize (lg_sl ([.ref b0, .int p1]) ++ List.replicate (3 - (lg_sl ([.ref b0, .int p1])).length) Slot.unset).toArray = ls at hl ⊢
  have hl : lv_has ls 3 [(0, .ref b0), (1, .int p1)] := hl
  have hinX3 : ∀ w ∈ wsX30, w ∈ wsX3_moveUpFrom := fun _ h => List.mem_cons_of_mem _ (List.mem_append_right _ h)
  refine lv_aload_n hx hb dX3_moveUpFrom_0 rfl (lv_at hl 0 rfl) ?_
  refine va_get (D := D) (ci := 3) (v := .int x0.2.2) (C := RX3) (T := TX3) (N := 3) hx hb hts hinX3 hown hQ.1 hP 0 rfl rfl 2 (by decide) (hts (.fieldLink RX3 18 "HeatPumpPlant$Curve" "count" "I") (List.mem_of_getElem? (i := 1) rfl)) (fun _ h9 => h9) rfl dX3_moveUpFrom_1 ?_
  refine lv_istore_n (lv' := [(2, .int x0.2.2), (0, .ref b0), (1, .int p1)]) hx hb dX3_moveUpFrom_4 rfl hl (by decide) rfl (fun ls hl => ?_)
  have loop5 : ∀ (fu : Nat) (i : Int32) (a : SS) (b : SS) (hm : (i.toInt - p1.toInt).toNat < fu) (kk : ∀ z : Int32 × SS × SS, z = L3_moveUpFrom_5 x0 p1 fu i a b → ∀ (H : Heap) (locs : List Loc) (_ : va_P D vwCl (wF [gK cI b0 b1 b2 (z.2.1, z.2.2, x0.2.2)]) H) (_ : va_D A (wF [gK cI b0 b1 b2 (z.2.1, z.2.2, x0.2.2)])) (_ : va_S A s.heap H locs) (ls : Array Slot) (_ : lv_has ls 3 [(2, .int z.1), (0, .ref b0), (1, .int p1)]), W p l e (headSpec wsX3_moveUpFrom ({ frames := 1, cells := 0, slots := 0, locals := 22 })).room s m #[.ref b0, .int p1] below meth c H locs 0 0 (MQ below (va_Qv (fun (w : SK) => w = F3_moveUpFrom x0 p1) (qW D A (fun w : SK => (wF [gK cI b0 b1 b2 w]))) A) #[.ref b0, .int p1] s 0 0 A) (F0 m 54 ls [])), ∀ (H : Heap) (locs : List Loc) (_ : va_P D vwCl (wF [gK cI b0 b1 b2 (a, b, x0.2.2)]) H) (_ : va_D A (wF [gK cI b0 b1 b2 (a, b, x0.2.2)])) (_ : va_S A s.heap H locs) (ls : Array Slot) (_ : lv_has ls 3 [(2, .int i), (0, .ref b0), (1, .int p1)]), W p l e (headSpec wsX3_moveUpFrom ({ frames := 1, cells := 0, slots := 0, locals := 22 })).room s m #[.ref b0, .int p1] below meth c H locs 0 0 (MQ below (va_Qv (fun (w : SK) => w = F3_moveUpFrom x0 p1) (qW D A (fun w : SK => (wF [gK cI b0 b1 b2 w]))) A) #[.ref b0, .int p1] s 0 0 A) (F0 m 5 ls []) := by
    intro fu
    induction fu with
    | zero => intro i a b  hm; exact absurd hm (by omega)
    | succ fu ih =>
      intro i a b  hm kk H locs hP hD hS ls hl
      refine lv_iload_n hx hb dX3_moveUpFrom_5 rfl (lv_at hl 0 rfl) ?_
      refine lv_iload_n hx hb dX3_moveUpFrom_6 rfl (lv_at hl 2 rfl) ?_
      refine lv_icmp_le (tgt := 54) hx hb dX3_moveUpFrom_7 (by decide) (fun c1 => ?_) (fun c1 => ?_)
      · have c1 : i ≤ p1 := c1
        exact kk (i, a, b) ((Eq.trans (if_pos c1) (rfl)).symm) H locs hP hD hS ls (lv_sub hl [0, 1, 2] rfl)
      · have c1 : ¬ (i ≤ p1) := c1
        refine lv_aload_n hx hb dX3_moveUpFrom_10 rfl (lv_at hl 1 rfl) ?_
        refine va_get (D := D) (ci := 3) (v := .ref b1) (C := RX3) (T := TX3) (N := 3) hx hb hts hinX3 hown hQ.1 hP 0 rfl rfl 0 (by decide) (hts (.fieldLink RX3 11 "HeatPumpPlant$Curve" "outdoors" "[I") (List.mem_of_getElem? (i := 2) rfl)) (fun _ h9 => h9) rfl dX3_moveUpFrom_11 ?_
        refine lv_iload_n hx hb dX3_moveUpFrom_14 rfl (lv_at hl 0 rfl) ?_
        refine lv_aload_n hx hb dX3_moveUpFrom_15 rfl (lv_at hl 1 rfl) ?_
        refine va_get (D := D) (ci := 3) (v := .ref b1) (C := RX3) (T := TX3) (N := 3) hx hb hts hinX3 hown hQ.1 hP 0 rfl rfl 0 (by decide) (hts (.fieldLink RX3 11 "HeatPumpPlant$Curve" "outdoors" "[I") (List.mem_of_getElem? (i := 2) rfl)) (fun _ h9 => h9) rfl dX3_moveUpFrom_16 ?_
        refine lv_iload_n hx hb dX3_moveUpFrom_19 rfl (lv_at hl 0 rfl) ?_
        refine lv_iconst (v := (1 : Int32)) hx hb dX3_moveUpFrom_20 (by decide) ?_
        refine lv_isub hx hb dX3_moveUpFrom_21 ?_
        refine lv_iconst (v := (0 : Int32)) hx hb dX3_moveUpFrom_22 (by decide) ?_
        have hPc : va_P D vwCl (wF [gI cI b1 6 a]) H := hP.sub [1] rfl
        refine c_Ri (va_runSN (As := [.ref b1, .int (i - (1 : Int32)), .int (0 : Int32)]) (rest := [.int i, .ref b1]) ⟨hx, hb, hml, hown, hts⟩ (m10_elementOr l D cI cL cP b1 6 a (i - (1 : Int32)) (0 : Int32) (by decide) H) ⟨va_cnB 3 hts gX3_moveUpFrom_X10_elementOr_n34 rfl rfl rfl (hQ.2 (RX3, 34, yX10_elementOr, "HeatPumpPlant") (List.mem_of_getElem? (i := 13) rfl)) (hts (.initialized RX10) (List.mem_of_getElem? (i := 5) rfl)) (by decide +kernel) ⟨Nat.le_of_ble_eq_true rfl, Nat.le_of_ble_eq_true rfl⟩, (hts (.static yX10_elementOr) (List.mem_of_getElem? (i := 4) rfl)), trivial⟩ (preR_S hQ hPc) rfl rfl hl.1 rfl (lv_room (Nat.le_of_ble_eq_true rfl)) dX3_moveUpFrom_23 ⟨Nat.le_of_ble_eq_true rfl, Nat.le_of_ble_eq_true rfl⟩) hS (fun locs hS => ?_)
        have hP : va_P D vwCl (wF [[(b0, .inr (3, [.ref b1, .ref b2, .int x0.2.2]))], gI cI b1 6 a, gI cI b2 6 b]) H := hP
        have hD : va_D A (wF [[(b0, .inr (3, [.ref b1, .ref b2, .int x0.2.2]))], gI cI b1 6 a, gI cI b2 6 b]) := hD
        have hPc : va_P D vwCl (wF [gI cI b1 6 a]) H := w_psub hP [1] rfl
        have hDc : va_D A (wF [gI cI b1 6 a]) := w_gsub hD [1] rfl rfl
        refine c_Mv (F := F10_replace 6 a i (F10_elementOr 6 a (i - (1 : Int32)) (0 : Int32))) (G1 := (fun w => [gI cI b1 6 w])) (Gr := [[(b0, .inr (3, [.ref b1, .ref b2, .int x0.2.2]))], gI cI b2 6 b]) (Gs' := fun z2 => [[(b0, .inr (3, [.ref b1, .ref b2, .int x0.2.2]))], gI cI b1 6 z2, gI cI b2 6 b]) (va_runSN (As := [.ref b1, .int i, .int (F10_elementOr 6 a (i - (1 : Int32)) (0 : Int32))]) (rest := []) ⟨hx, hb, hml, hown, hts⟩ (m10_replace l D cI cL cP b1 6 a i (F10_elementOr 6 a (i - (1 : Int32)) (0 : Int32)) (by decide) H.size) ⟨va_cnB 3 hts gX3_moveUpFrom_X10_replace_n22 rfl rfl rfl (hQ.2 (RX3, 22, yX10_replace, "HeatPumpPlant") (List.mem_of_getElem? (i := 2) rfl)) (hts (.initialized RX10) (List.mem_of_getElem? (i := 5) rfl)) (by decide +kernel) ⟨Nat.le_of_ble_eq_true rfl, Nat.le_of_ble_eq_true rfl⟩, (hts (.static yX10_replace) (List.mem_of_getElem? (i := 7) rfl)), trivial⟩ (preM_S hQ hPc hDc) rfl rfl hl.1 rfl (lv_room (Nat.le_of_ble_eq_true rfl)) dX3_moveUpFrom_26 ⟨Nat.le_of_ble_eq_true rfl, Nat.le_of_ble_eq_true rfl⟩) hS hA hP hD [1] [0, 2] [1, 0, 2] rfl rfl rfl rfl rfl (fun _ => rfl) (fun z2 H locs hz2 hP hD hS => ?_)
        have hP : va_P D vwCl (wF [gK cI b0 b1 b2 (z2, b, x0.2.2)]) H := hP
        have hD : va_D A (wF [gK cI b0 b1 b2 (z2, b, x0.2.2)]) := hD
        refine lv_aload_n hx hb dX3_moveUpFrom_29 rfl (lv_at hl 1 rfl) ?_
        refine va_get (D := D) (ci := 3) (v := .ref b2) (C := RX3) (T := TX3) (N := 3) hx hb hts hinX3 hown hQ.1 hP 0 rfl rfl 1 (by decide) (hts (.fieldLink RX3 15 "HeatPumpPlant$Curve" "supplies" "[I") (List.mem_of_getElem? (i := 3) rfl)) (fun _ h9 => h9) rfl dX3_moveUpFrom_30 ?_
        refine lv_iload_n hx hb dX3_moveUpFrom_33 rfl (lv_at hl 0 rfl) ?_
        refine lv_aload_n hx hb dX3_moveUpFrom_34 rfl (lv_at hl 1 rfl) ?_
        refine va_get (D := D) (ci := 3) (v := .ref b2) (C := RX3) (T := TX3) (N := 3) hx hb hts hinX3 hown hQ.1 hP 0 rfl rfl 1 (by decide) (hts (.fieldLink RX3 15 "HeatPumpPlant$Curve" "supplies" "[I") (List.mem_of_getElem? (i := 3) rfl)) (fun _ h9 => h9) rfl dX3_moveUpFrom_35 ?_
        refine lv_iload_n hx hb dX3_moveUpFrom_38 rfl (lv_at hl 0 rfl) ?_
        refine lv_iconst (v := (1 : Int32)) hx hb dX3_moveUpFrom_39 (by decide) ?_
        refine lv_isub hx hb dX3_moveUpFrom_40 ?_
        refine lv_iconst (v := (0 : Int32)) hx hb dX3_moveUpFrom_41 (by decide) ?_
        have hPc : va_P D vwCl (wF [gI cI b2 6 b]) H := hP.sub [2] rfl
        refine c_Ri (va_runSN (As := [.ref b2, .int (i - (1 : Int32)), .int (0 : Int32)]) (rest := [.int i, .ref b2]) ⟨hx, hb, hml, hown, hts⟩ (m10_elementOr l D cI cL cP b2 6 b (i - (1 : Int32)) (0 : Int32) (by decide) H) ⟨va_cnB 3 hts gX3_moveUpFrom_X10_elementOr_n34 rfl rfl rfl (hQ.2 (RX3, 34, yX10_elementOr, "HeatPumpPlant") (List.mem_of_getElem? (i := 13) rfl)) (hts (.initialized RX10) (List.mem_of_getElem? (i := 5) rfl)) (by decide +kernel) ⟨Nat.le_of_ble_eq_true rfl, Nat.le_of_ble_eq_true rfl⟩, (hts (.static yX10_elementOr) (List.mem_of_getElem? (i := 4) rfl)), trivial⟩ (preR_S hQ hPc) rfl rfl hl.1 rfl (lv_room (Nat.le_of_ble_eq_true rfl)) dX3_moveUpFrom_42 ⟨Nat.le_of_ble_eq_true rfl, Nat.le_of_ble_eq_true rfl⟩) hS (fun locs hS => ?_)
        have hP : va_P D vwCl (wF [[(b0, .inr (3, [.ref b1, .ref b2, .int x0.2.2]))], gI cI b1 6 z2, gI cI b2 6 b]) H := hP
        have hD : va_D A (wF [[(b0, .inr (3, [.ref b1, .ref b2, .int x0.2.2]))], gI cI b1 6 z2, gI cI b2 6 b]) := hD
        have hPc : va_P D vwCl (wF [gI cI b2 6 b]) H := w_psub hP [2] rfl
        have hDc : va_D A (wF [gI cI b2 6 b]) := w_gsub hD [2] rfl rfl
        refine c_Mv (F := F10_replace 6 b i (F10_elementOr 6 b (i - (1 : Int32)) (0 : Int32))) (G1 := (fun w => [gI cI b2 6 w])) (Gr := [[(b0, .inr (3, [.ref b1, .ref b2, .int x0.2.2]))], gI cI b1 6 z2]) (Gs' := fun z3 => [[(b0, .inr (3, [.ref b1, .ref b2, .int x0.2.2]))], gI cI b1 6 z2, gI cI b2 6 z3]) (va_runSN (As := [.ref b2, .int i, .int (F10_elementOr 6 b (i - (1 : Int32)) (0 : Int32))]) (rest := []) ⟨hx, hb, hml, hown, hts⟩ (m10_replace l D cI cL cP b2 6 b i (F10_elementOr 6 b (i - (1 : Int32)) (0 : Int32)) (by decide) H.size) ⟨va_cnB 3 hts gX3_moveUpFrom_X10_replace_n22 rfl rfl rfl (hQ.2 (RX3, 22, yX10_replace, "HeatPumpPlant") (List.mem_of_getElem? (i := 2) rfl)) (hts (.initialized RX10) (List.mem_of_getElem? (i := 5) rfl)) (by decide +kernel) ⟨Nat.le_of_ble_eq_true rfl, Nat.le_of_ble_eq_true rfl⟩, (hts (.static yX10_replace) (List.mem_of_getElem? (i := 7) rfl)), trivial⟩ (preM_S hQ hPc hDc) rfl rfl hl.1 rfl (lv_room (Nat.le_of_ble_eq_true rfl)) dX3_moveUpFrom_45 ⟨Nat.le_of_ble_eq_true rfl, Nat.le_of_ble_eq_true rfl⟩) hS hA hP hD [2] [0, 1] [1, 2, 0] rfl rfl rfl rfl rfl (fun _ => rfl) (fun z3 H locs hz3 hP hD hS => ?_)
        have hP : va_P D vwCl (wF [gK cI b0 b1 b2 (z2, z3, x0.2.2)]) H := hP
        have hD : va_D A (wF [gK cI b0 b1 b2 (z2, z3, x0.2.2)]) := hD
        refine lv_iinc (v := (i + (-1 : Int32))) (lv' := [(2, .int (i + (-1 : Int32))), (0, .ref b0), (1, .int p1)]) hx hb dX3_moveUpFrom_48 hl (k := 0) rfl rfl (by decide) rfl (fun ls hl => ?_)
        refine lv_goto (tgt := 5) hx hb dX3_moveUpFrom_51 (by decide) ?_
        have hP : va_P D vwCl (wF [gK cI b0 b1 b2 (z2, z3, x0.2.2)]) H := hP
        have hD : va_D A (wF [gK cI b0 b1 b2 (z2, z3, x0.2.2)]) := hD
        exact ih (i + (-1 : Int32)) z2 z3 (w_dec c1 hm) (fun z hz => kk z (hz.trans ((Eq.trans (if_neg c1) (Eq.trans (congrArg (K3_moveUpFrom_1 x0 p1 i a b (L3_moveUpFrom_5 x0 p1 fu)) hz2.symm) (Eq.trans (congrArg (K3_moveUpFrom_2 x0 p1 i a b z2 (L3_moveUpFrom_5 x0 p1 fu)) hz3.symm) (rfl)))).symm))) H locs hP hD hS ls (lv_sub hl [0, 1, 2] rfl)
  have hP : va_P D vwCl (wF [gK cI b0 b1 b2 (x0.1, x0.2.1, x0.2.2)]) s.heap := hP
  have hD : va_D A (wF [gK cI b0 b1 b2 (x0.1, x0.2.1, x0.2.2)]) := hD
  refine loop5 (((x0.2.2).toInt - p1.toInt).toNat + 1) x0.2.2 x0.1 x0.2.1 (Nat.lt_succ_self _) (fun z4 hz4  H locs hP hD hS ls hl => ?_) s.heap [] hP hD hS ls (lv_sub hl [0, 1, 2] rfl)
  exact W.vret hx hb hr (fun t ht hW => ⟨⟨(z4.2.1, z4.2.2, x0.2.2), rfl, ((Eq.trans (congrArg (K3_moveUpFrom_3 x0 p1) hz4.symm) (rfl)).symm), by rw [ht]; exact hP, hD⟩, hS.F ht⟩) hS.2.2 dX3_moveUpFrom_54
def K3_put_1 (x0 : SK) (p1 : Int32) (p2 : Int32) (z2 : SS) : SK := (x0.1, z2, x0.2.2)
def K3_put_4 (x0 : SK) (p1 : Int32) (p2 : Int32) (z3 : SK) (z4 : SS) (z5 : SS) : SK := (z4, z5, (z3.2.2 + (1 : Int32)))
def K3_put_3 (x0 : SK) (p1 : Int32) (p2 : Int32) (z3 : SK) (z4 : SS) : SK := (K3_put_4 x0 p1 p2 z3 z4 (F10_replace 6 z3.2.1 (F3_placeFor x0 p1) p2))
def K3_put_2 (x0 : SK) (p1 : Int32) (p2 : Int32) (z3 : SK) : SK := (K3_put_3 x0 p1 p2 z3 (F10_replace 6 z3.1 (F3_placeFor x0 p1) p1))
def F3_put (x0 : SK) (p1 : Int32) (p2 : Int32) : SK := (if (F3_has x0 p1) = true then (K3_put_1 x0 p1 p2 (F10_replace 6 x0.2.1 (F3_placeFor x0 p1) p2)) else (K3_put_2 x0 p1 p2 (F3_moveUpFrom x0 (F3_placeFor x0 p1))))
set_option maxHeartbeats 4000000 in
set_option maxRecDepth 100000 in
theorem m3_put (l : Launch) (D : va_G) (cI cL cP : ClassId) (b0 : Nat) (b1 : Nat) (b2 : Nat) (x0 : SK) (p1 : Int32) (p2 : Int32) (sz : Nat) : Met l yX3_put wsX3_put ({ frames := 2, cells := 0, slots := 0, locals := 44 }) (va_Pc [.ref b0, .int p1, .int p2] (pM D cI cL cP sz (wF [gK cI b0 b1 b2 x0]))) (va_Qv (fun (w : SK) => w = F3_put x0 p1 p2) (qW D (va_A (wF [gK cI b0 b1 b2 x0]) sz) (fun w : SK => (wF [gK cI b0 b1 b2 w]))) (va_A (wF [gK cI b0 b1 b2 x0]) sz)) 0 0 (va_A (wF [gK cI b0 b1 b2 x0]) sz) := by
  refine Met.ofW (cc := cX3_put) (maxL := 4) (ret := none) (by decide) rfl ?_
  intro p e s m args below meth c s₁ B hml hv
  obtain ⟨rfl, hsz, hP, hQ, hD0⟩ := hv
  have hx := B.exec
  have hb := B.bytes
  have hr := B.returns
  have hts := atoms_spec (ws := wsX3_put) B.pre
  have hown : s.vm.findClass RX3 = some m.cls := findClass_of_methodNamed B.named
  have hlocks := B.notSynchronized
  subst hsz
  have hD := hD0.self (sz := s.heap.size)
  generalize hAe : va_A (wF [gK cI b0 b1 b2 x0]) s.heap.size = A at hD ⊢
  have hA : ∀ q : Nat, s.heap.size ≤ q → A q := fun q h => by rw [← hAe]; exact Or.inr h
  have hS : va_S A s.heap s.heap [] := va_S.rf
  have hP : va_P D vwCl (wF [gK cI b0 b1 b2 x0]) s.heap := hP
  have hl := lv_entry ([.ref b0, .int p1, .int p2]) (n := 4) (Nat.le_of_ble_eq_true rfl)
  rw [lg_entry_eq]
  generalize (lg_sl ([.ref b0, .int p1, .int p2]) ++ List.replicate (4 - (lg_sl ([.ref b0, .int p1, .int p2])).length) Slot.unset).toArray = ls at hl ⊢
  have hl : lv_has ls 4 [(0, .ref b0), (1, .int p1), (2, .int p2)] := hl
  have hinX3 : ∀ w ∈ wsX30, w ∈ wsX3_put := fun _ h => List.mem_cons_of_mem _ (List.mem_append_right _ h)
  refine lv_aload_n hx hb dX3_put_0 rfl (lv_at hl 0 rfl) ?_
  refine lv_iload_n hx hb dX3_put_1 rfl (lv_at hl 1 rfl) ?_
  have hPc : va_P D vwCl (wF [gK cI b0 b1 b2 x0]) s.heap := hP.sub [0, 1, 2] rfl
  refine c_Ri (va_runV (As := [.int p1]) (rest := []) ⟨hx, hb, hml, hown, hts⟩ (m3_placeFor l D cI cL cP b0 b1 b2 x0 p1 s.heap) (cwV 1 hts gX3_put_X3_placeFor rfl rfl rfl (by decide +kernel) ⟨Nat.le_of_ble_eq_true rfl, Nat.le_of_ble_eq_true rfl⟩) (preR_V (q := (RX3, TX3, 3)) (q0 := 0) hQ hPc rfl rfl) rfl rfl hl.1 rfl (lv_room (Nat.le_of_ble_eq_true rfl)) dX3_put_2 ⟨Nat.le_of_ble_eq_true rfl, Nat.le_of_ble_eq_true rfl⟩) hS (fun locs hS => ?_)
  refine lv_istore_n (lv' := [(3, .int (F3_placeFor x0 p1)), (0, .ref b0), (1, .int p1), (2, .int p2)]) hx hb dX3_put_5 rfl hl (by decide) rfl (fun ls hl => ?_)
  refine lv_aload_n hx hb dX3_put_6 rfl (lv_at hl 1 rfl) ?_
  refine lv_iload_n hx hb dX3_put_7 rfl (lv_at hl 2 rfl) ?_
  have hPc : va_P D vwCl (wF [gK cI b0 b1 b2 x0]) s.heap := hP.sub [0, 1, 2] rfl
  refine c_Ri (va_runV (As := [.int p1]) (rest := []) ⟨hx, hb, hml, hown, hts⟩ (m3_has l D cI cL cP b0 b1 b2 x0 p1 s.heap) (cwV 1 hts gX3_put_X3_has rfl rfl rfl (by decide +kernel) ⟨Nat.le_of_ble_eq_true rfl, Nat.le_of_ble_eq_true rfl⟩) (preR_V (q := (RX3, TX3, 3)) (q0 := 0) hQ hPc rfl rfl) rfl rfl hl.1 rfl (lv_room (Nat.le_of_ble_eq_true rfl)) dX3_put_8 ⟨Nat.le_of_ble_eq_true rfl, Nat.le_of_ble_eq_true rfl⟩) hS (fun locs hS => ?_)
  refine lv_if_ne (tgt := 38) hx hb dX3_put_11 (by decide) (fun c1 => ?_) (fun c1 => ?_)
  · have c1 : (F3_has x0 p1) = true := bI_1.mp c1
    refine lv_aload_n hx hb dX3_put_38 rfl (lv_at hl 1 rfl) ?_
    refine va_get (D := D) (ci := 3) (v := .ref b2) (C := RX3) (T := TX3) (N := 3) hx hb hts hinX3 hown hQ.1 hP 0 rfl rfl 1 (by decide) (hts (.fieldLink RX3 15 "HeatPumpPlant$Curve" "supplies" "[I") (List.mem_of_getElem? (i := 3) rfl)) (fun _ h9 => h9) rfl dX3_put_39 ?_
    refine lv_iload_n hx hb dX3_put_42 rfl (lv_at hl 0 rfl) ?_
    refine lv_iload_n hx hb dX3_put_43 rfl (lv_at hl 3 rfl) ?_
    have hP : va_P D vwCl (wF [[(b0, .inr (3, [.ref b1, .ref b2, .int x0.2.2]))], gI cI b1 6 x0.1, gI cI b2 6 x0.2.1]) s.heap := hP
    have hD : va_D A (wF [[(b0, .inr (3, [.ref b1, .ref b2, .int x0.2.2]))], gI cI b1 6 x0.1, gI cI b2 6 x0.2.1]) := hD
    have hPc : va_P D vwCl (wF [gI cI b2 6 x0.2.1]) s.heap := w_psub hP [2] rfl
    have hDc : va_D A (wF [gI cI b2 6 x0.2.1]) := w_gsub hD [2] rfl rfl
    refine c_Mv (F := F10_replace 6 x0.2.1 (F3_placeFor x0 p1) p2) (G1 := (fun w => [gI cI b2 6 w])) (Gr := [[(b0, .inr (3, [.ref b1, .ref b2, .int x0.2.2]))], gI cI b1 6 x0.1]) (Gs' := fun z2 => [[(b0, .inr (3, [.ref b1, .ref b2, .int x0.2.2]))], gI cI b1 6 x0.1, gI cI b2 6 z2]) (va_runSN (As := [.ref b2, .int (F3_placeFor x0 p1), .int p2]) (rest := []) ⟨hx, hb, hml, hown, hts⟩ (m10_replace l D cI cL cP b2 6 x0.2.1 (F3_placeFor x0 p1) p2 (by decide) s.heap.size) ⟨va_cnB 3 hts gX3_put_X10_replace_n22 rfl rfl rfl (hQ.2 (RX3, 22, yX10_replace, "HeatPumpPlant") (List.mem_of_getElem? (i := 2) rfl)) (hts (.initialized RX10) (List.mem_of_getElem? (i := 14) rfl)) (by decide +kernel) ⟨Nat.le_of_ble_eq_true rfl, Nat.le_of_ble_eq_true rfl⟩, (hts (.static yX10_replace) (List.mem_of_getElem? (i := 20) rfl)), trivial⟩ (preM_S hQ hPc hDc) rfl rfl hl.1 rfl (lv_room (Nat.le_of_ble_eq_true rfl)) dX3_put_44 ⟨Nat.le_of_ble_eq_true rfl, Nat.le_of_ble_eq_true rfl⟩) hS hA hP hD [2] [0, 1] [1, 2, 0] rfl rfl rfl rfl rfl (fun _ => rfl) (fun z2 H locs hz2 hP hD hS => ?_)
    have hP : va_P D vwCl (wF [gK cI b0 b1 b2 (x0.1, z2, x0.2.2)]) H := hP
    have hD : va_D A (wF [gK cI b0 b1 b2 (x0.1, z2, x0.2.2)]) := hD
    exact W.vret hx hb hr (fun t ht hW => ⟨⟨(x0.1, z2, x0.2.2), rfl, ((Eq.trans (if_pos c1) (Eq.trans (congrArg (K3_put_1 x0 p1 p2) hz2.symm) (rfl))).symm), by rw [ht]; exact hP, hD⟩, hS.F ht⟩) hS.2.2 dX3_put_47
  · have c1 : ¬ ((F3_has x0 p1) = true) := bI_0.mp c1
    refine lv_aload_n hx hb dX3_put_14 rfl (lv_at hl 1 rfl) ?_
    refine lv_iload_n hx hb dX3_put_15 rfl (lv_at hl 0 rfl) ?_
    have hPc : va_P D vwCl (wF [gK cI b0 b1 b2 x0]) s.heap := w_psub hP [0] rfl
    have hDc : va_D A (wF [gK cI b0 b1 b2 x0]) := w_gsub hD [0] rfl rfl
    refine c_Mv (F := F3_moveUpFrom x0 (F3_placeFor x0 p1)) (G1 := (fun w => [gK cI b0 b1 b2 w])) (Gr := []) (Gs' := fun z3 => [gK cI b0 b1 b2 z3]) (va_runV (As := [.int (F3_placeFor x0 p1)]) (rest := []) ⟨hx, hb, hml, hown, hts⟩ (m3_moveUpFrom l D cI cL cP b0 b1 b2 x0 (F3_placeFor x0 p1) s.heap.size) (cwV 1 hts gX3_put_X3_moveUpFrom rfl rfl rfl (by decide +kernel) ⟨Nat.le_of_ble_eq_true rfl, Nat.le_of_ble_eq_true rfl⟩) (preM_V (q := (RX3, TX3, 3)) (q0 := 0) hQ hPc hDc rfl rfl) rfl rfl hl.1 rfl (lv_room (Nat.le_of_ble_eq_true rfl)) dX3_put_16 ⟨Nat.le_of_ble_eq_true rfl, Nat.le_of_ble_eq_true rfl⟩) hS hA hP hD [0] [] [0] rfl rfl rfl rfl rfl (fun _ => rfl) (fun z3 H locs hz3 hP hD hS => ?_)
    have hP : va_P D vwCl (wF [gK cI b0 b1 b2 z3]) H := hP
    have hD : va_D A (wF [gK cI b0 b1 b2 z3]) := hD
    refine lv_aload_n hx hb dX3_put_19 rfl (lv_at hl 1 rfl) ?_
    refine va_get (D := D) (ci := 3) (v := .ref b1) (C := RX3) (T := TX3) (N := 3) hx hb hts hinX3 hown hQ.1 hP 0 rfl rfl 0 (by decide) (hts (.fieldLink RX3 11 "HeatPumpPlant$Curve" "outdoors" "[I") (List.mem_of_getElem? (i := 1) rfl)) (fun _ h9 => h9) rfl dX3_put_20 ?_
    refine lv_iload_n hx hb dX3_put_23 rfl (lv_at hl 0 rfl) ?_
    refine lv_iload_n hx hb dX3_put_24 rfl (lv_at hl 2 rfl) ?_
    have hP : va_P D vwCl (wF [[(b0, .inr (3, [.ref b1, .ref b2, .int z3.2.2]))], gI cI b1 6 z3.1, gI cI b2 6 z3.2.1]) H := hP
    have hD : va_D A (wF [[(b0, .inr (3, [.ref b1, .ref b2, .int z3.2.2]))], gI cI b1 6 z3.1, gI cI b2 6 z3.2.1]) := hD
    have hPc : va_P D vwCl (wF [gI cI b1 6 z3.1]) H := w_psub hP [1] rfl
    have hDc : va_D A (wF [gI cI b1 6 z3.1]) := w_gsub hD [1] rfl rfl
    refine c_Mv (F := F10_replace 6 z3.1 (F3_placeFor x0 p1) p1) (G1 := (fun w => [gI cI b1 6 w])) (Gr := [[(b0, .inr (3, [.ref b1, .ref b2, .int z3.2.2]))], gI cI b2 6 z3.2.1]) (Gs' := fun z4 => [[(b0, .inr (3, [.ref b1, .ref b2, .int z3.2.2]))], gI cI b1 6 z4, gI cI b2 6 z3.2.1]) (va_runSN (As := [.ref b1, .int (F3_placeFor x0 p1), .int p1]) (rest := []) ⟨hx, hb, hml, hown, hts⟩ (m10_replace l D cI cL cP b1 6 z3.1 (F3_placeFor x0 p1) p1 (by decide) H.size) ⟨va_cnB 3 hts gX3_put_X10_replace_n22 rfl rfl rfl (hQ.2 (RX3, 22, yX10_replace, "HeatPumpPlant") (List.mem_of_getElem? (i := 2) rfl)) (hts (.initialized RX10) (List.mem_of_getElem? (i := 14) rfl)) (by decide +kernel) ⟨Nat.le_of_ble_eq_true rfl, Nat.le_of_ble_eq_true rfl⟩, (hts (.static yX10_replace) (List.mem_of_getElem? (i := 20) rfl)), trivial⟩ (preM_S hQ hPc hDc) rfl rfl hl.1 rfl (lv_room (Nat.le_of_ble_eq_true rfl)) dX3_put_25 ⟨Nat.le_of_ble_eq_true rfl, Nat.le_of_ble_eq_true rfl⟩) hS hA hP hD [1] [0, 2] [1, 0, 2] rfl rfl rfl rfl rfl (fun _ => rfl) (fun z4 H locs hz4 hP hD hS => ?_)
    have hP : va_P D vwCl (wF [gK cI b0 b1 b2 (z4, z3.2.1, z3.2.2)]) H := hP
    have hD : va_D A (wF [gK cI b0 b1 b2 (z4, z3.2.1, z3.2.2)]) := hD
    refine lv_aload_n hx hb dX3_put_28 rfl (lv_at hl 1 rfl) ?_
    refine lv_dup hx hb dX3_put_29 rfl ?_
    refine va_get (D := D) (ci := 3) (v := .int z3.2.2) (C := RX3) (T := TX3) (N := 3) hx hb hts hinX3 hown hQ.1 hP 0 rfl rfl 2 (by decide) (hts (.fieldLink RX3 18 "HeatPumpPlant$Curve" "count" "I") (List.mem_of_getElem? (i := 2) rfl)) (fun _ h9 => h9) rfl dX3_put_30 ?_
    refine lv_iconst (v := (1 : Int32)) hx hb dX3_put_33 (by decide) ?_
    refine lv_iadd hx hb dX3_put_34 ?_
    refine va_put (D := D) (ci := 3) (v := .int (z3.2.2 + (1 : Int32))) (ty := .int) (C := RX3) (T := TX3) (N := 3) hx hb hts hinX3 tyX3 tyX3_ok nmX3 hown hQ.1 hP hD hS 0 rfl rfl 2 (by decide) (hts (.fieldLink RX3 18 "HeatPumpPlant$Curve" "count" "I") (List.mem_of_getElem? (i := 2) rfl)) (fun _ h9 => h9) rfl (by decide +kernel) rfl rfl (Nat.le_of_ble_eq_true rfl) dX3_put_35 (fun H locs hP hD hS => ?_)
    have hP : va_P D vwCl (wF [gK cI b0 b1 b2 (z4, z3.2.1, (z3.2.2 + (1 : Int32)))]) H := hP
    have hD : va_D A (wF [gK cI b0 b1 b2 (z4, z3.2.1, (z3.2.2 + (1 : Int32)))]) := hD
    refine lv_aload_n hx hb dX3_put_38 rfl (lv_at hl 1 rfl) ?_
    refine va_get (D := D) (ci := 3) (v := .ref b2) (C := RX3) (T := TX3) (N := 3) hx hb hts hinX3 hown hQ.1 hP 0 rfl rfl 1 (by decide) (hts (.fieldLink RX3 15 "HeatPumpPlant$Curve" "supplies" "[I") (List.mem_of_getElem? (i := 3) rfl)) (fun _ h9 => h9) rfl dX3_put_39 ?_
    refine lv_iload_n hx hb dX3_put_42 rfl (lv_at hl 0 rfl) ?_
    refine lv_iload_n hx hb dX3_put_43 rfl (lv_at hl 3 rfl) ?_
    have hP : va_P D vwCl (wF [[(b0, .inr (3, [.ref b1, .ref b2, .int (z3.2.2 + (1 : Int32))]))], gI cI b1 6 z4, gI cI b2 6 z3.2.1]) H := hP
    have hD : va_D A (wF [[(b0, .inr (3, [.ref b1, .ref b2, .int (z3.2.2 + (1 : Int32))]))], gI cI b1 6 z4, gI cI b2 6 z3.2.1]) := hD
    have hPc : va_P D vwCl (wF [gI cI b2 6 z3.2.1]) H := w_psub hP [2] rfl
    have hDc : va_D A (wF [gI cI b2 6 z3.2.1]) := w_gsub hD [2] rfl rfl
    refine c_Mv (F := F10_replace 6 z3.2.1 (F3_placeFor x0 p1) p2) (G1 := (fun w => [gI cI b2 6 w])) (Gr := [[(b0, .inr (3, [.ref b1, .ref b2, .int (z3.2.2 + (1 : Int32))]))], gI cI b1 6 z4]) (Gs' := fun z5 => [[(b0, .inr (3, [.ref b1, .ref b2, .int (z3.2.2 + (1 : Int32))]))], gI cI b1 6 z4, gI cI b2 6 z5]) (va_runSN (As := [.ref b2, .int (F3_placeFor x0 p1), .int p2]) (rest := []) ⟨hx, hb, hml, hown, hts⟩ (m10_replace l D cI cL cP b2 6 z3.2.1 (F3_placeFor x0 p1) p2 (by decide) H.size) ⟨va_cnB 3 hts gX3_put_X10_replace_n22 rfl rfl rfl (hQ.2 (RX3, 22, yX10_replace, "HeatPumpPlant") (List.mem_of_getElem? (i := 2) rfl)) (hts (.initialized RX10) (List.mem_of_getElem? (i := 14) rfl)) (by decide +kernel) ⟨Nat.le_of_ble_eq_true rfl, Nat.le_of_ble_eq_true rfl⟩, (hts (.static yX10_replace) (List.mem_of_getElem? (i := 20) rfl)), trivial⟩ (preM_S hQ hPc hDc) rfl rfl hl.1 rfl (lv_room (Nat.le_of_ble_eq_true rfl)) dX3_put_44 ⟨Nat.le_of_ble_eq_true rfl, Nat.le_of_ble_eq_true rfl⟩) hS hA hP hD [2] [0, 1] [1, 2, 0] rfl rfl rfl rfl rfl (fun _ => rfl) (fun z5 H locs hz5 hP hD hS => ?_)
    have hP : va_P D vwCl (wF [gK cI b0 b1 b2 (z4, z5, (z3.2.2 + (1 : Int32)))]) H := hP
    have hD : va_D A (wF [gK cI b0 b1 b2 (z4, z5, (z3.2.2 + (1 : Int32)))]) := hD
    exact W.vret hx hb hr (fun t ht hW => ⟨⟨(z4, z5, (z3.2.2 + (1 : Int32))), rfl, ((Eq.trans (if_neg c1) (Eq.trans (congrArg (K3_put_2 x0 p1 p2) hz3.symm) (Eq.trans (congrArg (K3_put_3 x0 p1 p2 z3) hz4.symm) (Eq.trans (congrArg (K3_put_4 x0 p1 p2 z3 z4) hz5.symm) (rfl))))).symm), by rw [ht]; exact hP, hD⟩, hS.F ht⟩) hS.2.2 dX3_put_47
def K3_drop_2 (x0 : SK) (p1 : Int32) (i : Int32) (a : SS) (b : SS) (z2 : SS) (rec6 : Int32 → SS → SS → Int32 × SS × SS) (z3 : SS) : Int32 × SS × SS := (rec6 (i + (1 : Int32)) z2 z3)
def K3_drop_1 (x0 : SK) (p1 : Int32) (i : Int32) (a : SS) (b : SS) (rec6 : Int32 → SS → SS → Int32 × SS × SS) (z2 : SS) : Int32 × SS × SS := (K3_drop_2 x0 p1 i a b z2 rec6 (F10_replace 6 b i (F10_elementOr 6 b (i + (1 : Int32)) (0 : Int32))))
def L3_drop_6 (x0 : SK) (p1 : Int32) : Nat → Int32 → SS → SS → Int32 × SS × SS
  | 0, _, _, _ => default
  | fu + 1, i, a, b => (if (x0.2.2 - (1 : Int32)) ≤ i then (i, a, b) else (K3_drop_1 x0 p1 i a b (L3_drop_6 x0 p1 fu) (F10_replace 6 a i (F10_elementOr 6 a (i + (1 : Int32)) (0 : Int32)))))
def K3_drop_3 (x0 : SK) (p1 : Int32) (z4 : Int32 × SS × SS) : SK := (z4.2.1, z4.2.2, (x0.2.2 - (1 : Int32)))
def F3_drop (x0 : SK) (p1 : Int32) : SK := (K3_drop_3 x0 p1 (L3_drop_6 x0 p1 (((x0.2.2 - 1).toInt - (F3_placeFor x0 p1).toInt).toNat + 1) (F3_placeFor x0 p1) x0.1 x0.2.1))
set_option maxHeartbeats 4000000 in
set_option maxRecDepth 100000 in
theorem m3_drop (l : Launch) (D : va_G) (cI cL cP : ClassId) (b0 : Nat) (b1 : Nat) (b2 : Nat) (x0 : SK) (p1 : Int32) (sz : Nat) : Met l yX3_drop wsX3_drop ({ frames := 1, cells := 0, slots := 0, locals := 22 }) (va_Pc [.ref b0, .int p1] (pM D cI cL cP sz (wF [gK cI b0 b1 b2 x0]))) (va_Qv (fun (w : SK) => w = F3_drop x0 p1) (qW D (va_A (wF [gK cI b0 b1 b2 x0]) sz) (fun w : SK => (wF [gK cI b0 b1 b2 w]))) (va_A (wF [gK cI b0 b1 b2 x0]) sz)) 0 0 (va_A (wF [gK cI b0 b1 b2 x0]) sz) := by
  refine Met.ofW (cc := cX3_drop) (maxL := 3) (ret := none) (by decide) rfl ?_
  intro p e s m args below meth c s₁ B hml hv
  obtain ⟨rfl, hsz, hP, hQ, hD0⟩ := hv
  have hx := B.exec
  have hb := B.bytes
  have hr := B.returns
  have hts := atoms_spec (ws := wsX3_drop) B.pre
  have hown : s.vm.findClass RX3 = some m.cls := findClass_of_methodNamed B.named
  have hlocks := B.notSynchronized
  subst hsz
  have hD := hD0.self (sz := s.heap.size)
  generalize hAe : va_A (wF [gK cI b0 b1 b2 x0]) s.heap.size = A at hD ⊢
  have hA : ∀ q : Nat, s.heap.size ≤ q → A q := fun q h => by rw [← hAe]; exact Or.inr h
  have hS : va_S A s.heap s.heap [] := va_S.rf
  have hP : va_P D vwCl (wF [gK cI b0 b1 b2 x0]) s.heap := hP
  have hl := lv_entry ([.ref b0, .int p1]) (n := 3) (Nat.le_of_ble_eq_true rfl)
  rw [lg_entry_eq]
  generalize (lg_sl ([.ref b0, .int p1]) ++ List.replicate (3 - (lg_sl ([.ref b0, .int p1])).length) Slot.unset).toArray = ls at hl ⊢
  have hl : lv_has ls 3 [(0, .ref b0), (1, .int p1)] := hl
  have hinX3 : ∀ w ∈ wsX30, w ∈ wsX3_drop := fun _ h => List.mem_cons_of_mem _ (List.mem_append_right _ h)
  refine lv_aload_n hx hb dX3_drop_0 rfl (lv_at hl 0 rfl) ?_
  refine lv_iload_n hx hb dX3_drop_1 rfl (lv_at hl 1 rfl) ?_
  have hPc : va_P D vwCl (wF [gK cI b0 b1 b2 x0]) s.heap := hP.sub [0, 1, 2] rfl
  refine c_Ri (va_runV (As := [.int p1]) (rest := []) ⟨hx, hb, hml, hown, hts⟩ (m3_placeFor l D cI cL cP b0 b1 b2 x0 p1 s.heap) (cwV 1 hts gX3_drop_X3_placeFor rfl rfl rfl (by decide +kernel) ⟨Nat.le_of_ble_eq_true rfl, Nat.le_of_ble_eq_true rfl⟩) (preR_V (q := (RX3, TX3, 3)) (q0 := 0) hQ hPc rfl rfl) rfl rfl hl.1 rfl (lv_room (Nat.le_of_ble_eq_true rfl)) dX3_drop_2 ⟨Nat.le_of_ble_eq_true rfl, Nat.le_of_ble_eq_true rfl⟩) hS (fun locs hS => ?_)
  refine lv_istore_n (lv' := [(2, .int (F3_placeFor x0 p1)), (0, .ref b0), (1, .int p1)]) hx hb dX3_drop_5 rfl hl (by decide) rfl (fun ls hl => ?_)
  have loop6 : ∀ (fu : Nat) (i : Int32) (a : SS) (b : SS) (hm : ((x0.2.2 - 1).toInt - i.toInt).toNat < fu) (kk : ∀ z : Int32 × SS × SS, z = L3_drop_6 x0 p1 fu i a b → ∀ (H : Heap) (locs : List Loc) (_ : va_P D vwCl (wF [gK cI b0 b1 b2 (z.2.1, z.2.2, x0.2.2)]) H) (_ : va_D A (wF [gK cI b0 b1 b2 (z.2.1, z.2.2, x0.2.2)])) (_ : va_S A s.heap H locs) (ls : Array Slot) (_ : lv_has ls 3 [(2, .int z.1), (0, .ref b0), (1, .int p1)]), W p l e (headSpec wsX3_drop ({ frames := 1, cells := 0, slots := 0, locals := 22 })).room s m #[.ref b0, .int p1] below meth c H locs 0 0 (MQ below (va_Qv (fun (w : SK) => w = F3_drop x0 p1) (qW D A (fun w : SK => (wF [gK cI b0 b1 b2 w]))) A) #[.ref b0, .int p1] s 0 0 A) (F0 m 60 ls [])), ∀ (H : Heap) (locs : List Loc) (_ : va_P D vwCl (wF [gK cI b0 b1 b2 (a, b, x0.2.2)]) H) (_ : va_D A (wF [gK cI b0 b1 b2 (a, b, x0.2.2)])) (_ : va_S A s.heap H locs) (ls : Array Slot) (_ : lv_has ls 3 [(2, .int i), (0, .ref b0), (1, .int p1)]), W p l e (headSpec wsX3_drop ({ frames := 1, cells := 0, slots := 0, locals := 22 })).room s m #[.ref b0, .int p1] below meth c H locs 0 0 (MQ below (va_Qv (fun (w : SK) => w = F3_drop x0 p1) (qW D A (fun w : SK => (wF [gK cI b0 b1 b2 w]))) A) #[.ref b0, .int p1] s 0 0 A) (F0 m 6 ls []) := by
    intro fu
    induction fu with
    | zero => intro i a b  hm; exact absurd hm (by omega)
    | succ fu ih =>
      intro i a b  hm kk H locs hP hD hS ls hl
      refine lv_iload_n hx hb dX3_drop_6 rfl (lv_at hl 0 rfl) ?_
      refine lv_aload_n hx hb dX3_drop_7 rfl (lv_at hl 1 rfl) ?_
      refine va_get (D := D) (ci := 3) (v := .int x0.2.2) (C := RX3) (T := TX3) (N := 3) hx hb hts hinX3 hown hQ.1 hP 0 rfl rfl 2 (by decide) (hts (.fieldLink RX3 18 "HeatPumpPlant$Curve" "count" "I") (List.mem_of_getElem? (i := 1) rfl)) (fun _ h9 => h9) rfl dX3_drop_8 ?_
      refine lv_iconst (v := (1 : Int32)) hx hb dX3_drop_11 (by decide) ?_
      refine lv_isub hx hb dX3_drop_12 ?_
      refine lv_icmp_ge (tgt := 60) hx hb dX3_drop_13 (by decide) (fun c1 => ?_) (fun c1 => ?_)
      · have c1 : (x0.2.2 - (1 : Int32)) ≤ i := c1
        exact kk (i, a, b) ((Eq.trans (if_pos c1) (rfl)).symm) H locs hP hD hS ls (lv_sub hl [0, 1, 2] rfl)
      · have c1 : ¬ ((x0.2.2 - (1 : Int32)) ≤ i) := c1
        refine lv_aload_n hx hb dX3_drop_16 rfl (lv_at hl 1 rfl) ?_
        refine va_get (D := D) (ci := 3) (v := .ref b1) (C := RX3) (T := TX3) (N := 3) hx hb hts hinX3 hown hQ.1 hP 0 rfl rfl 0 (by decide) (hts (.fieldLink RX3 11 "HeatPumpPlant$Curve" "outdoors" "[I") (List.mem_of_getElem? (i := 2) rfl)) (fun _ h9 => h9) rfl dX3_drop_17 ?_
        refine lv_iload_n hx hb dX3_drop_20 rfl (lv_at hl 0 rfl) ?_
        refine lv_aload_n hx hb dX3_drop_21 rfl (lv_at hl 1 rfl) ?_
        refine va_get (D := D) (ci := 3) (v := .ref b1) (C := RX3) (T := TX3) (N := 3) hx hb hts hinX3 hown hQ.1 hP 0 rfl rfl 0 (by decide) (hts (.fieldLink RX3 11 "HeatPumpPlant$Curve" "outdoors" "[I") (List.mem_of_getElem? (i := 2) rfl)) (fun _ h9 => h9) rfl dX3_drop_22 ?_
        refine lv_iload_n hx hb dX3_drop_25 rfl (lv_at hl 0 rfl) ?_
        refine lv_iconst (v := (1 : Int32)) hx hb dX3_drop_26 (by decide) ?_
        refine lv_iadd hx hb dX3_drop_27 ?_
        refine lv_iconst (v := (0 : Int32)) hx hb dX3_drop_28 (by decide) ?_
        have hPc : va_P D vwCl (wF [gI cI b1 6 a]) H := hP.sub [1] rfl
        refine c_Ri (va_runSN (As := [.ref b1, .int (i + (1 : Int32)), .int (0 : Int32)]) (rest := [.int i, .ref b1]) ⟨hx, hb, hml, hown, hts⟩ (m10_elementOr l D cI cL cP b1 6 a (i + (1 : Int32)) (0 : Int32) (by decide) H) ⟨va_cnB 3 hts gX3_drop_X10_elementOr_n34 rfl rfl rfl (hQ.2 (RX3, 34, yX10_elementOr, "HeatPumpPlant") (List.mem_of_getElem? (i := 13) rfl)) (hts (.initialized RX10) (List.mem_of_getElem? (i := 10) rfl)) (by decide +kernel) ⟨Nat.le_of_ble_eq_true rfl, Nat.le_of_ble_eq_true rfl⟩, (hts (.static yX10_elementOr) (List.mem_of_getElem? (i := 9) rfl)), trivial⟩ (preR_S hQ hPc) rfl rfl hl.1 rfl (lv_room (Nat.le_of_ble_eq_true rfl)) dX3_drop_29 ⟨Nat.le_of_ble_eq_true rfl, Nat.le_of_ble_eq_true rfl⟩) hS (fun locs hS => ?_)
        have hP : va_P D vwCl (wF [[(b0, .inr (3, [.ref b1, .ref b2, .int x0.2.2]))], gI cI b1 6 a, gI cI b2 6 b]) H := hP
        have hD : va_D A (wF [[(b0, .inr (3, [.ref b1, .ref b2, .int x0.2.2]))], gI cI b1 6 a, gI cI b2 6 b]) := hD
        have hPc : va_P D vwCl (wF [gI cI b1 6 a]) H := w_psub hP [1] rfl
        have hDc : va_D A (wF [gI cI b1 6 a]) := w_gsub hD [1] rfl rfl
        refine c_Mv (F := F10_replace 6 a i (F10_elementOr 6 a (i + (1 : Int32)) (0 : Int32))) (G1 := (fun w => [gI cI b1 6 w])) (Gr := [[(b0, .inr (3, [.ref b1, .ref b2, .int x0.2.2]))], gI cI b2 6 b]) (Gs' := fun z2 => [[(b0, .inr (3, [.ref b1, .ref b2, .int x0.2.2]))], gI cI b1 6 z2, gI cI b2 6 b]) (va_runSN (As := [.ref b1, .int i, .int (F10_elementOr 6 a (i + (1 : Int32)) (0 : Int32))]) (rest := []) ⟨hx, hb, hml, hown, hts⟩ (m10_replace l D cI cL cP b1 6 a i (F10_elementOr 6 a (i + (1 : Int32)) (0 : Int32)) (by decide) H.size) ⟨va_cnB 3 hts gX3_drop_X10_replace_n22 rfl rfl rfl (hQ.2 (RX3, 22, yX10_replace, "HeatPumpPlant") (List.mem_of_getElem? (i := 2) rfl)) (hts (.initialized RX10) (List.mem_of_getElem? (i := 10) rfl)) (by decide +kernel) ⟨Nat.le_of_ble_eq_true rfl, Nat.le_of_ble_eq_true rfl⟩, (hts (.static yX10_replace) (List.mem_of_getElem? (i := 12) rfl)), trivial⟩ (preM_S hQ hPc hDc) rfl rfl hl.1 rfl (lv_room (Nat.le_of_ble_eq_true rfl)) dX3_drop_32 ⟨Nat.le_of_ble_eq_true rfl, Nat.le_of_ble_eq_true rfl⟩) hS hA hP hD [1] [0, 2] [1, 0, 2] rfl rfl rfl rfl rfl (fun _ => rfl) (fun z2 H locs hz2 hP hD hS => ?_)
        have hP : va_P D vwCl (wF [gK cI b0 b1 b2 (z2, b, x0.2.2)]) H := hP
        have hD : va_D A (wF [gK cI b0 b1 b2 (z2, b, x0.2.2)]) := hD
        refine lv_aload_n hx hb dX3_drop_35 rfl (lv_at hl 1 rfl) ?_
        refine va_get (D := D) (ci := 3) (v := .ref b2) (C := RX3) (T := TX3) (N := 3) hx hb hts hinX3 hown hQ.1 hP 0 rfl rfl 1 (by decide) (hts (.fieldLink RX3 15 "HeatPumpPlant$Curve" "supplies" "[I") (List.mem_of_getElem? (i := 3) rfl)) (fun _ h9 => h9) rfl dX3_drop_36 ?_
        refine lv_iload_n hx hb dX3_drop_39 rfl (lv_at hl 0 rfl) ?_
        refine lv_aload_n hx hb dX3_drop_40 rfl (lv_at hl 1 rfl) ?_
        refine va_get (D := D) (ci := 3) (v := .ref b2) (C := RX3) (T := TX3) (N := 3) hx hb hts hinX3 hown hQ.1 hP 0 rfl rfl 1 (by decide) (hts (.fieldLink RX3 15 "HeatPumpPlant$Curve" "supplies" "[I") (List.mem_of_getElem? (i := 3) rfl)) (fun _ h9 => h9) rfl dX3_drop_41 ?_
        refine lv_iload_n hx hb dX3_drop_44 rfl (lv_at hl 0 rfl) ?_
        refine lv_iconst (v := (1 : Int32)) hx hb dX3_drop_45 (by decide) ?_
        refine lv_iadd hx hb dX3_drop_46 ?_
        refine lv_iconst (v := (0 : Int32)) hx hb dX3_drop_47 (by decide) ?_
        have hPc : va_P D vwCl (wF [gI cI b2 6 b]) H := hP.sub [2] rfl
        refine c_Ri (va_runSN (As := [.ref b2, .int (i + (1 : Int32)), .int (0 : Int32)]) (rest := [.int i, .ref b2]) ⟨hx, hb, hml, hown, hts⟩ (m10_elementOr l D cI cL cP b2 6 b (i + (1 : Int32)) (0 : Int32) (by decide) H) ⟨va_cnB 3 hts gX3_drop_X10_elementOr_n34 rfl rfl rfl (hQ.2 (RX3, 34, yX10_elementOr, "HeatPumpPlant") (List.mem_of_getElem? (i := 13) rfl)) (hts (.initialized RX10) (List.mem_of_getElem? (i := 10) rfl)) (by decide +kernel) ⟨Nat.le_of_ble_eq_true rfl, Nat.le_of_ble_eq_true rfl⟩, (hts (.static yX10_elementOr) (List.mem_of_getElem? (i := 9) rfl)), trivial⟩ (preR_S hQ hPc) rfl rfl hl.1 rfl (lv_room (Nat.le_of_ble_eq_true rfl)) dX3_drop_48 ⟨Nat.le_of_ble_eq_true rfl, Nat.le_of_ble_eq_true rfl⟩) hS (fun locs hS => ?_)
        have hP : va_P D vwCl (wF [[(b0, .inr (3, [.ref b1, .ref b2, .int x0.2.2]))], gI cI b1 6 z2, gI cI b2 6 b]) H := hP
        have hD : va_D A (wF [[(b0, .inr (3, [.ref b1, .ref b2, .int x0.2.2]))], gI cI b1 6 z2, gI cI b2 6 b]) := hD
        have hPc : va_P D vwCl (wF [gI cI b2 6 b]) H := w_psub hP [2] rfl
        have hDc : va_D A (wF [gI cI b2 6 b]) := w_gsub hD [2] rfl rfl
        refine c_Mv (F := F10_replace 6 b i (F10_elementOr 6 b (i + (1 : Int32)) (0 : Int32))) (G1 := (fun w => [gI cI b2 6 w])) (Gr := [[(b0, .inr (3, [.ref b1, .ref b2, .int x0.2.2]))], gI cI b1 6 z2]) (Gs' := fun z3 => [[(b0, .inr (3, [.ref b1, .ref b2, .int x0.2.2]))], gI cI b1 6 z2, gI cI b2 6 z3]) (va_runSN (As := [.ref b2, .int i, .int (F10_elementOr 6 b (i + (1 : Int32)) (0 : Int32))]) (rest := []) ⟨hx, hb, hml, hown, hts⟩ (m10_replace l D cI cL cP b2 6 b i (F10_elementOr 6 b (i + (1 : Int32)) (0 : Int32)) (by decide) H.size) ⟨va_cnB 3 hts gX3_drop_X10_replace_n22 rfl rfl rfl (hQ.2 (RX3, 22, yX10_replace, "HeatPumpPlant") (List.mem_of_getElem? (i := 2) rfl)) (hts (.initialized RX10) (List.mem_of_getElem? (i := 10) rfl)) (by decide +kernel) ⟨Nat.le_of_ble_eq_true rfl, Nat.le_of_ble_eq_true rfl⟩, (hts (.static yX10_replace) (List.mem_of_getElem? (i := 12) rfl)), trivial⟩ (preM_S hQ hPc hDc) rfl rfl hl.1 rfl (lv_room (Nat.le_of_ble_eq_true rfl)) dX3_drop_51 ⟨Nat.le_of_ble_eq_true rfl, Nat.le_of_ble_eq_true rfl⟩) hS hA hP hD [2] [0, 1] [1, 2, 0] rfl rfl rfl rfl rfl (fun _ => rfl) (fun z3 H locs hz3 hP hD hS => ?_)
        have hP : va_P D vwCl (wF [gK cI b0 b1 b2 (z2, z3, x0.2.2)]) H := hP
        have hD : va_D A (wF [gK cI b0 b1 b2 (z2, z3, x0.2.2)]) := hD
        refine lv_iinc (v := (i + (1 : Int32))) (lv' := [(2, .int (i + (1 : Int32))), (0, .ref b0), (1, .int p1)]) hx hb dX3_drop_54 hl (k := 0) rfl rfl (by decide) rfl (fun ls hl => ?_)
        refine lv_goto (tgt := 6) hx hb dX3_drop_57 (by decide) ?_
        have hP : va_P D vwCl (wF [gK cI b0 b1 b2 (z2, z3, x0.2.2)]) H := hP
        have hD : va_D A (wF [gK cI b0 b1 b2 (z2, z3, x0.2.2)]) := hD
        exact ih (i + (1 : Int32)) z2 z3 (w_inc c1 hm) (fun z hz => kk z (hz.trans ((Eq.trans (if_neg c1) (Eq.trans (congrArg (K3_drop_1 x0 p1 i a b (L3_drop_6 x0 p1 fu)) hz2.symm) (Eq.trans (congrArg (K3_drop_2 x0 p1 i a b z2 (L3_drop_6 x0 p1 fu)) hz3.symm) (rfl)))).symm))) H locs hP hD hS ls (lv_sub hl [0, 1, 2] rfl)
  have hP : va_P D vwCl (wF [gK cI b0 b1 b2 (x0.1, x0.2.1, x0.2.2)]) s.heap := hP
  have hD : va_D A (wF [gK cI b0 b1 b2 (x0.1, x0.2.1, x0.2.2)]) := hD
  refine loop6 (((x0.2.2 - 1).toInt - (F3_placeFor x0 p1).toInt).toNat + 1) (F3_placeFor x0 p1) x0.1 x0.2.1 (Nat.lt_succ_self _) (fun z4 hz4  H locs hP hD hS ls hl => ?_) s.heap locs hP hD hS ls (lv_sub hl [0, 1, 2] rfl)
  refine lv_aload_n hx hb dX3_drop_60 rfl (lv_at hl 1 rfl) ?_
  refine lv_dup hx hb dX3_drop_61 rfl ?_
  refine va_get (D := D) (ci := 3) (v := .int x0.2.2) (C := RX3) (T := TX3) (N := 3) hx hb hts hinX3 hown hQ.1 hP 0 rfl rfl 2 (by decide) (hts (.fieldLink RX3 18 "HeatPumpPlant$Curve" "count" "I") (List.mem_of_getElem? (i := 1) rfl)) (fun _ h9 => h9) rfl dX3_drop_62 ?_
  refine lv_iconst (v := (1 : Int32)) hx hb dX3_drop_65 (by decide) ?_
  refine lv_isub hx hb dX3_drop_66 ?_
  refine va_put (D := D) (ci := 3) (v := .int (x0.2.2 - (1 : Int32))) (ty := .int) (C := RX3) (T := TX3) (N := 3) hx hb hts hinX3 tyX3 tyX3_ok nmX3 hown hQ.1 hP hD hS 0 rfl rfl 2 (by decide) (hts (.fieldLink RX3 18 "HeatPumpPlant$Curve" "count" "I") (List.mem_of_getElem? (i := 1) rfl)) (fun _ h9 => h9) rfl (by decide +kernel) rfl rfl (Nat.le_of_ble_eq_true rfl) dX3_drop_67 (fun H locs hP hD hS => ?_)
  have hP : va_P D vwCl (wF [gK cI b0 b1 b2 (z4.2.1, z4.2.2, (x0.2.2 - (1 : Int32)))]) H := hP
  have hD : va_D A (wF [gK cI b0 b1 b2 (z4.2.1, z4.2.2, (x0.2.2 - (1 : Int32)))]) := hD
  exact W.vret hx hb hr (fun t ht hW => ⟨⟨(z4.2.1, z4.2.2, (x0.2.2 - (1 : Int32))), rfl, ((Eq.trans (congrArg (K3_drop_3 x0 p1) hz4.symm) (rfl)).symm), by rw [ht]; exact hP, hD⟩, hS.F ht⟩) hS.2.2 dX3_drop_70
def F3_supplyAt (x0 : SK) (p1 : Int32) : Int32 := (if (F3_placeFor x0 p1) = x0.2.2 then (F10_elementOr 6 x0.2.1 (x0.2.2 - (1 : Int32)) (-9999 : Int32)) else (if (F3_placeFor x0 p1) = (0 : Int32) then (F10_elementOr 6 x0.2.1 (F3_placeFor x0 p1) (-9999 : Int32)) else (if (F10_elementOr 6 x0.1 (F3_placeFor x0 p1) (-9999 : Int32)) = p1 then (F10_elementOr 6 x0.2.1 (F3_placeFor x0 p1) (-9999 : Int32)) else ((F10_elementOr 6 x0.2.1 ((F3_placeFor x0 p1) - (1 : Int32)) (-9999 : Int32)) + (F10_div ((((F10_elementOr 6 x0.2.1 (F3_placeFor x0 p1) (-9999 : Int32)) - (F10_elementOr 6 x0.2.1 ((F3_placeFor x0 p1) - (1 : Int32)) (-9999 : Int32))) * (p1 - (F10_elementOr 6 x0.1 ((F3_placeFor x0 p1) - (1 : Int32)) (-9999 : Int32)))).toInt64) (((F10_elementOr 6 x0.1 (F3_placeFor x0 p1) (-9999 : Int32)) - (F10_elementOr 6 x0.1 ((F3_placeFor x0 p1) - (1 : Int32)) (-9999 : Int32))).toInt64)).toInt32))))
set_option maxHeartbeats 4000000 in
set_option maxRecDepth 100000 in
theorem m3_supplyAt (l : Launch) (D : va_G) (cI cL cP : ClassId) (b0 : Nat) (b1 : Nat) (b2 : Nat) (x0 : SK) (p1 : Int32) (H0 : Heap) : Met l yX3_supplyAt wsX3_supplyAt ({ frames := 1, cells := 0, slots := 0, locals := 25 }) (va_Pc [.ref b0, .int p1] (pR D cI cL cP H0 (wF [gK cI b0 b1 b2 x0]))) (va_Qi (fun (r : Int32) (_ : Unit) => r = F3_supplyAt x0 p1) (qE H0) nF) 0 0 nF := by
  refine Met.ofW (cc := cX3_supplyAt) (maxL := 7) (ret := (some .int)) (by decide) rfl ?_
  intro p e s m args below meth c s₁ B hml hv
  obtain ⟨rfl, rfl, hP, hQ⟩ := hv
  have hx := B.exec
  have hb := B.bytes
  have hr := B.returns
  have hts := atoms_spec (ws := wsX3_supplyAt) B.pre
  have hown : s.vm.findClass RX3 = some m.cls := findClass_of_methodNamed B.named
  have hlocks := B.notSynchronized
  have hS : va_S nF s.heap s.heap [] := va_S.rf
  have hl := lv_entry ([.ref b0, .int p1]) (n := 7) (Nat.le_of_ble_eq_true rfl)
  rw [lg_entry_eq]
  generalize (lg_sl ([.ref b0, .int p1]) ++ List.replicate (7 - (lg_sl ([.ref b0, .int p1])).length) Slot.unset).toArray = ls at hl ⊢
  have hl : lv_has ls 7 [(0, .ref b0), (1, .int p1)] := hl
  have hinX3 : ∀ w ∈ wsX30, w ∈ wsX3_supplyAt := fun _ h => List.mem_cons_of_mem _ (List.mem_append_right _ h)
  refine lv_aload_n hx hb dX3_supplyAt_0 rfl (lv_at hl 0 rfl) ?_
  refine lv_iload_n hx hb dX3_supplyAt_1 rfl (lv_at hl 1 rfl) ?_
  have hPc : va_P D vwCl (wF [gK cI b0 b1 b2 x0]) s.heap := hP.sub [0, 1, 2] rfl
  refine c_Ri (va_runV (As := [.int p1]) (rest := []) ⟨hx, hb, hml, hown, hts⟩ (m3_placeFor l D cI cL cP b0 b1 b2 x0 p1 s.heap) (cwV 1 hts gX3_supplyAt_X3_placeFor rfl rfl rfl (by decide +kernel) ⟨Nat.le_of_ble_eq_true rfl, Nat.le_of_ble_eq_true rfl⟩) (preR_V (q := (RX3, TX3, 3)) (q0 := 0) hQ hPc rfl rfl) rfl rfl hl.1 rfl (lv_room (Nat.le_of_ble_eq_true rfl)) dX3_supplyAt_2 ⟨Nat.le_of_ble_eq_true rfl, Nat.le_of_ble_eq_true rfl⟩) hS (fun locs hS => ?_)
  refine lv_istore_n (lv' := [(2, .int (F3_placeFor x0 p1)), (0, .ref b0), (1, .int p1)]) hx hb dX3_supplyAt_5 rfl hl (by decide) rfl (fun ls hl => ?_)
  refine lv_iload_n hx hb dX3_supplyAt_6 rfl (lv_at hl 0 rfl) ?_
  refine lv_aload_n hx hb dX3_supplyAt_7 rfl (lv_at hl 1 rfl) ?_
  refine va_get (D := D) (ci := 3) (v := .int x0.2.2) (C := RX3) (T := TX3) (N := 3) hx hb hts hinX3 hown hQ.1 hP 0 rfl rfl 2 (by decide) (hts (.fieldLink RX3 18 "HeatPumpPlant$Curve" "count" "I") (List.mem_of_getElem? (i := 1) rfl)) (fun _ h9 => h9) rfl dX3_supplyAt_8 ?_
  refine lv_icmp_ne (tgt := 31) hx hb dX3_supplyAt_11 (by decide) (fun c1 => ?_) (fun c1 => ?_)
  · have c1 : ¬ ((F3_placeFor x0 p1) = x0.2.2) := c1
    refine lv_aload_n hx hb dX3_supplyAt_31 rfl (lv_at hl 1 rfl) ?_
    refine va_get (D := D) (ci := 3) (v := .ref b1) (C := RX3) (T := TX3) (N := 3) hx hb hts hinX3 hown hQ.1 hP 0 rfl rfl 0 (by decide) (hts (.fieldLink RX3 11 "HeatPumpPlant$Curve" "outdoors" "[I") (List.mem_of_getElem? (i := 3) rfl)) (fun _ h9 => h9) rfl dX3_supplyAt_32 ?_
    refine lv_iload_n hx hb dX3_supplyAt_35 rfl (lv_at hl 0 rfl) ?_
    refine lv_sipush (v := (-9999 : Int32)) hx hb dX3_supplyAt_36 (by decide) ?_
    have hPc : va_P D vwCl (wF [gI cI b1 6 x0.1]) s.heap := hP.sub [1] rfl
    refine c_Ri (va_runSN (As := [.ref b1, .int (F3_placeFor x0 p1), .int (-9999 : Int32)]) (rest := []) ⟨hx, hb, hml, hown, hts⟩ (m10_elementOr l D cI cL cP b1 6 x0.1 (F3_placeFor x0 p1) (-9999 : Int32) (by decide) s.heap) ⟨va_cnB 3 hts gX3_supplyAt_X10_elementOr_n34 rfl rfl rfl (hQ.2 (RX3, 34, yX10_elementOr, "HeatPumpPlant") (List.mem_of_getElem? (i := 13) rfl)) (hts (.initialized RX10) (List.mem_of_getElem? (i := 10) rfl)) (by decide +kernel) ⟨Nat.le_of_ble_eq_true rfl, Nat.le_of_ble_eq_true rfl⟩, (hts (.static yX10_elementOr) (List.mem_of_getElem? (i := 9) rfl)), trivial⟩ (preR_S hQ hPc) rfl rfl hl.1 rfl (lv_room (Nat.le_of_ble_eq_true rfl)) dX3_supplyAt_39 ⟨Nat.le_of_ble_eq_true rfl, Nat.le_of_ble_eq_true rfl⟩) hS (fun locs hS => ?_)
    refine lv_istore_n (lv' := [(3, .int (F10_elementOr 6 x0.1 (F3_placeFor x0 p1) (-9999 : Int32))), (2, .int (F3_placeFor x0 p1)), (0, .ref b0), (1, .int p1)]) hx hb dX3_supplyAt_42 rfl hl (by decide) rfl (fun ls hl => ?_)
    refine lv_aload_n hx hb dX3_supplyAt_43 rfl (lv_at hl 2 rfl) ?_
    refine va_get (D := D) (ci := 3) (v := .ref b2) (C := RX3) (T := TX3) (N := 3) hx hb hts hinX3 hown hQ.1 hP 0 rfl rfl 1 (by decide) (hts (.fieldLink RX3 15 "HeatPumpPlant$Curve" "supplies" "[I") (List.mem_of_getElem? (i := 2) rfl)) (fun _ h9 => h9) rfl dX3_supplyAt_44 ?_
    refine lv_iload_n hx hb dX3_supplyAt_47 rfl (lv_at hl 1 rfl) ?_
    refine lv_sipush (v := (-9999 : Int32)) hx hb dX3_supplyAt_48 (by decide) ?_
    have hPc : va_P D vwCl (wF [gI cI b2 6 x0.2.1]) s.heap := hP.sub [2] rfl
    refine c_Ri (va_runSN (As := [.ref b2, .int (F3_placeFor x0 p1), .int (-9999 : Int32)]) (rest := []) ⟨hx, hb, hml, hown, hts⟩ (m10_elementOr l D cI cL cP b2 6 x0.2.1 (F3_placeFor x0 p1) (-9999 : Int32) (by decide) s.heap) ⟨va_cnB 3 hts gX3_supplyAt_X10_elementOr_n34 rfl rfl rfl (hQ.2 (RX3, 34, yX10_elementOr, "HeatPumpPlant") (List.mem_of_getElem? (i := 13) rfl)) (hts (.initialized RX10) (List.mem_of_getElem? (i := 10) rfl)) (by decide +kernel) ⟨Nat.le_of_ble_eq_true rfl, Nat.le_of_ble_eq_true rfl⟩, (hts (.static yX10_elementOr) (List.mem_of_getElem? (i := 9) rfl)), trivial⟩ (preR_S hQ hPc) rfl rfl hl.1 rfl (lv_room (Nat.le_of_ble_eq_true rfl)) dX3_supplyAt_51 ⟨Nat.le_of_ble_eq_true rfl, Nat.le_of_ble_eq_true rfl⟩) hS (fun locs hS => ?_)
    refine lv_istore (lv' := [(4, .int (F10_elementOr 6 x0.2.1 (F3_placeFor x0 p1) (-9999 : Int32))), (3, .int (F10_elementOr 6 x0.1 (F3_placeFor x0 p1) (-9999 : Int32))), (2, .int (F3_placeFor x0 p1)), (0, .ref b0), (1, .int p1)]) hx hb dX3_supplyAt_54 hl (by decide) rfl (fun ls hl => ?_)
    refine lv_iload_n hx hb dX3_supplyAt_56 rfl (lv_at hl 2 rfl) ?_
    refine lv_if_eq (tgt := 65) hx hb dX3_supplyAt_57 (by decide) (fun c2 => ?_) (fun c2 => ?_)
    · have c2 : (F3_placeFor x0 p1) = (0 : Int32) := c2
      refine lv_iload hx hb dX3_supplyAt_65 (lv_at hl 0 rfl) ?_
      exact W.iret (v := (F10_elementOr 6 x0.2.1 (F3_placeFor x0 p1) (-9999 : Int32))) hx hb hr (fun t ht hW => ⟨⟨(F10_elementOr 6 x0.2.1 (F3_placeFor x0 p1) (-9999 : Int32)), (), rfl, ((Eq.trans (if_neg c1) (Eq.trans (if_pos c2) (rfl))).symm), ht⟩, hS.F ht⟩) hS.2.2 dX3_supplyAt_67
    · have c2 : ¬ ((F3_placeFor x0 p1) = (0 : Int32)) := c2
      refine lv_iload_n hx hb dX3_supplyAt_60 rfl (lv_at hl 1 rfl) ?_
      refine lv_iload_n hx hb dX3_supplyAt_61 rfl (lv_at hl 4 rfl) ?_
      refine lv_icmp_ne (tgt := 68) hx hb dX3_supplyAt_62 (by decide) (fun c3 => ?_) (fun c3 => ?_)
      · have c3 : ¬ ((F10_elementOr 6 x0.1 (F3_placeFor x0 p1) (-9999 : Int32)) = p1) := c3
        refine lv_aload_n hx hb dX3_supplyAt_68 rfl (lv_at hl 3 rfl) ?_
        refine va_get (D := D) (ci := 3) (v := .ref b1) (C := RX3) (T := TX3) (N := 3) hx hb hts hinX3 hown hQ.1 hP 0 rfl rfl 0 (by decide) (hts (.fieldLink RX3 11 "HeatPumpPlant$Curve" "outdoors" "[I") (List.mem_of_getElem? (i := 3) rfl)) (fun _ h9 => h9) rfl dX3_supplyAt_69 ?_
        refine lv_iload_n hx hb dX3_supplyAt_72 rfl (lv_at hl 2 rfl) ?_
        refine lv_iconst (v := (1 : Int32)) hx hb dX3_supplyAt_73 (by decide) ?_
        refine lv_isub hx hb dX3_supplyAt_74 ?_
        refine lv_sipush (v := (-9999 : Int32)) hx hb dX3_supplyAt_75 (by decide) ?_
        have hPc : va_P D vwCl (wF [gI cI b1 6 x0.1]) s.heap := hP.sub [1] rfl
        refine c_Ri (va_runSN (As := [.ref b1, .int ((F3_placeFor x0 p1) - (1 : Int32)), .int (-9999 : Int32)]) (rest := []) ⟨hx, hb, hml, hown, hts⟩ (m10_elementOr l D cI cL cP b1 6 x0.1 ((F3_placeFor x0 p1) - (1 : Int32)) (-9999 : Int32) (by decide) s.heap) ⟨va_cnB 3 hts gX3_supplyAt_X10_elementOr_n34 rfl rfl rfl (hQ.2 (RX3, 34, yX10_elementOr, "HeatPumpPlant") (List.mem_of_getElem? (i := 13) rfl)) (hts (.initialized RX10) (List.mem_of_getElem? (i := 10) rfl)) (by decide +kernel) ⟨Nat.le_of_ble_eq_true rfl, Nat.le_of_ble_eq_true rfl⟩, (hts (.static yX10_elementOr) (List.mem_of_getElem? (i := 9) rfl)), trivial⟩ (preR_S hQ hPc) rfl rfl hl.1 rfl (lv_room (Nat.le_of_ble_eq_true rfl)) dX3_supplyAt_78 ⟨Nat.le_of_ble_eq_true rfl, Nat.le_of_ble_eq_true rfl⟩) hS (fun locs hS => ?_)
        refine lv_istore (lv' := [(5, .int (F10_elementOr 6 x0.1 ((F3_placeFor x0 p1) - (1 : Int32)) (-9999 : Int32))), (4, .int (F10_elementOr 6 x0.2.1 (F3_placeFor x0 p1) (-9999 : Int32))), (3, .int (F10_elementOr 6 x0.1 (F3_placeFor x0 p1) (-9999 : Int32))), (2, .int (F3_placeFor x0 p1)), (0, .ref b0), (1, .int p1)]) hx hb dX3_supplyAt_81 hl (by decide) rfl (fun ls hl => ?_)
        refine lv_aload_n hx hb dX3_supplyAt_83 rfl (lv_at hl 4 rfl) ?_
        refine va_get (D := D) (ci := 3) (v := .ref b2) (C := RX3) (T := TX3) (N := 3) hx hb hts hinX3 hown hQ.1 hP 0 rfl rfl 1 (by decide) (hts (.fieldLink RX3 15 "HeatPumpPlant$Curve" "supplies" "[I") (List.mem_of_getElem? (i := 2) rfl)) (fun _ h9 => h9) rfl dX3_supplyAt_84 ?_
        refine lv_iload_n hx hb dX3_supplyAt_87 rfl (lv_at hl 3 rfl) ?_
        refine lv_iconst (v := (1 : Int32)) hx hb dX3_supplyAt_88 (by decide) ?_
        refine lv_isub hx hb dX3_supplyAt_89 ?_
        refine lv_sipush (v := (-9999 : Int32)) hx hb dX3_supplyAt_90 (by decide) ?_
        have hPc : va_P D vwCl (wF [gI cI b2 6 x0.2.1]) s.heap := hP.sub [2] rfl
        refine c_Ri (va_runSN (As := [.ref b2, .int ((F3_placeFor x0 p1) - (1 : Int32)), .int (-9999 : Int32)]) (rest := []) ⟨hx, hb, hml, hown, hts⟩ (m10_elementOr l D cI cL cP b2 6 x0.2.1 ((F3_placeFor x0 p1) - (1 : Int32)) (-9999 : Int32) (by decide) s.heap) ⟨va_cnB 3 hts gX3_supplyAt_X10_elementOr_n34 rfl rfl rfl (hQ.2 (RX3, 34, yX10_elementOr, "HeatPumpPlant") (List.mem_of_getElem? (i := 13) rfl)) (hts (.initialized RX10) (List.mem_of_getElem? (i := 10) rfl)) (by decide +kernel) ⟨Nat.le_of_ble_eq_true rfl, Nat.le_of_ble_eq_true rfl⟩, (hts (.static yX10_elementOr) (List.mem_of_getElem? (i := 9) rfl)), trivial⟩ (preR_S hQ hPc) rfl rfl hl.1 rfl (lv_room (Nat.le_of_ble_eq_true rfl)) dX3_supplyAt_93 ⟨Nat.le_of_ble_eq_true rfl, Nat.le_of_ble_eq_true rfl⟩) hS (fun locs hS => ?_)
        refine lv_istore (lv' := [(6, .int (F10_elementOr 6 x0.2.1 ((F3_placeFor x0 p1) - (1 : Int32)) (-9999 : Int32))), (5, .int (F10_elementOr 6 x0.1 ((F3_placeFor x0 p1) - (1 : Int32)) (-9999 : Int32))), (4, .int (F10_elementOr 6 x0.2.1 (F3_placeFor x0 p1) (-9999 : Int32))), (3, .int (F10_elementOr 6 x0.1 (F3_placeFor x0 p1) (-9999 : Int32))), (2, .int (F3_placeFor x0 p1)), (0, .ref b0), (1, .int p1)]) hx hb dX3_supplyAt_96 hl (by decide) rfl (fun ls hl => ?_)
        refine lv_iload hx hb dX3_supplyAt_98 (lv_at hl 0 rfl) ?_
        refine lv_iload hx hb dX3_supplyAt_100 (lv_at hl 2 rfl) ?_
        refine lv_iload hx hb dX3_supplyAt_102 (lv_at hl 0 rfl) ?_
        refine lv_isub hx hb dX3_supplyAt_104 ?_
        refine lv_iload_n hx hb dX3_supplyAt_105 rfl (lv_at hl 6 rfl) ?_
        refine lv_iload hx hb dX3_supplyAt_106 (lv_at hl 1 rfl) ?_
        refine lv_isub hx hb dX3_supplyAt_108 ?_
        refine lv_imul hx hb dX3_supplyAt_109 ?_
        refine lv_i2l hx hb dX3_supplyAt_110 rfl ?_
        refine lv_iload_n hx hb dX3_supplyAt_111 rfl (lv_at hl 3 rfl) ?_
        refine lv_iload hx hb dX3_supplyAt_112 (lv_at hl 1 rfl) ?_
        refine lv_isub hx hb dX3_supplyAt_114 ?_
        refine lv_i2l hx hb dX3_supplyAt_115 rfl ?_
        have hPc : va_P D vwCl (wF []) s.heap := hP.sub [] rfl
        refine c_Rl (va_runSN (As := [.long ((((F10_elementOr 6 x0.2.1 (F3_placeFor x0 p1) (-9999 : Int32)) - (F10_elementOr 6 x0.2.1 ((F3_placeFor x0 p1) - (1 : Int32)) (-9999 : Int32))) * (p1 - (F10_elementOr 6 x0.1 ((F3_placeFor x0 p1) - (1 : Int32)) (-9999 : Int32)))).toInt64), .long (((F10_elementOr 6 x0.1 (F3_placeFor x0 p1) (-9999 : Int32)) - (F10_elementOr 6 x0.1 ((F3_placeFor x0 p1) - (1 : Int32)) (-9999 : Int32))).toInt64)]) (rest := [.int (F10_elementOr 6 x0.2.1 ((F3_placeFor x0 p1) - (1 : Int32)) (-9999 : Int32))]) ⟨hx, hb, hml, hown, hts⟩ (m10_div l D cI cL cP ((((F10_elementOr 6 x0.2.1 (F3_placeFor x0 p1) (-9999 : Int32)) - (F10_elementOr 6 x0.2.1 ((F3_placeFor x0 p1) - (1 : Int32)) (-9999 : Int32))) * (p1 - (F10_elementOr 6 x0.1 ((F3_placeFor x0 p1) - (1 : Int32)) (-9999 : Int32)))).toInt64) (((F10_elementOr 6 x0.1 (F3_placeFor x0 p1) (-9999 : Int32)) - (F10_elementOr 6 x0.1 ((F3_placeFor x0 p1) - (1 : Int32)) (-9999 : Int32))).toInt64) s.heap) ⟨va_cnB 2 hts gX3_supplyAt_X10_div_n46 rfl rfl rfl (hQ.2 (RX3, 46, yX10_div, "HeatPumpPlant") (List.mem_of_getElem? (i := 14) rfl)) (hts (.initialized RX10) (List.mem_of_getElem? (i := 10) rfl)) (by decide +kernel) ⟨Nat.le_of_ble_eq_true rfl, Nat.le_of_ble_eq_true rfl⟩, (hts (.static yX10_div) (List.mem_of_getElem? (i := 12) rfl)), trivial⟩ (preR_S hQ hPc) rfl rfl hl.1 rfl (lv_room (Nat.le_of_ble_eq_true rfl)) dX3_supplyAt_116 ⟨Nat.le_of_ble_eq_true rfl, Nat.le_of_ble_eq_true rfl⟩) hS (fun locs hS => ?_)
        refine lv_l2i hx hb dX3_supplyAt_119 rfl ?_
        refine lv_iadd hx hb dX3_supplyAt_120 ?_
        exact W.iret (v := ((F10_elementOr 6 x0.2.1 ((F3_placeFor x0 p1) - (1 : Int32)) (-9999 : Int32)) + (F10_div ((((F10_elementOr 6 x0.2.1 (F3_placeFor x0 p1) (-9999 : Int32)) - (F10_elementOr 6 x0.2.1 ((F3_placeFor x0 p1) - (1 : Int32)) (-9999 : Int32))) * (p1 - (F10_elementOr 6 x0.1 ((F3_placeFor x0 p1) - (1 : Int32)) (-9999 : Int32)))).toInt64) (((F10_elementOr 6 x0.1 (F3_placeFor x0 p1) (-9999 : Int32)) - (F10_elementOr 6 x0.1 ((F3_placeFor x0 p1) - (1 : Int32)) (-9999 : Int32))).toInt64)).toInt32)) hx hb hr (fun t ht hW => ⟨⟨((F10_elementOr 6 x0.2.1 ((F3_placeFor x0 p1) - (1 : Int32)) (-9999 : Int32)) + (F10_div ((((F10_elementOr 6 x0.2.1 (F3_placeFor x0 p1) (-9999 : Int32)) - (F10_elementOr 6 x0.2.1 ((F3_placeFor x0 p1) - (1 : Int32)) (-9999 : Int32))) * (p1 - (F10_elementOr 6 x0.1 ((F3_placeFor x0 p1) - (1 : Int32)) (-9999 : Int32)))).toInt64) (((F10_elementOr 6 x0.1 (F3_placeFor x0 p1) (-9999 : Int32)) - (F10_elementOr 6 x0.1 ((F3_placeFor x0 p1) - (1 : Int32)) (-9999 : Int32))).toInt64)).toInt32), (), rfl, ((Eq.trans (if_neg c1) (Eq.trans (if_neg c2) (Eq.trans (if_neg c3) (rfl)))).symm), ht⟩, hS.F ht⟩) hS.2.2 dX3_supplyAt_121
      · have c3 : (F10_elementOr 6 x0.1 (F3_placeFor x0 p1) (-9999 : Int32)) = p1 := c3
        refine lv_iload hx hb dX3_supplyAt_65 (lv_at hl 0 rfl) ?_
        exact W.iret (v := (F10_elementOr 6 x0.2.1 (F3_placeFor x0 p1) (-9999 : Int32))) hx hb hr (fun t ht hW => ⟨⟨(F10_elementOr 6 x0.2.1 (F3_placeFor x0 p1) (-9999 : Int32)), (), rfl, ((Eq.trans (if_neg c1) (Eq.trans (if_neg c2) (Eq.trans (if_pos c3) (rfl)))).symm), ht⟩, hS.F ht⟩) hS.2.2 dX3_supplyAt_67
  · have c1 : (F3_placeFor x0 p1) = x0.2.2 := c1
    refine lv_aload_n hx hb dX3_supplyAt_14 rfl (lv_at hl 1 rfl) ?_
    refine va_get (D := D) (ci := 3) (v := .ref b2) (C := RX3) (T := TX3) (N := 3) hx hb hts hinX3 hown hQ.1 hP 0 rfl rfl 1 (by decide) (hts (.fieldLink RX3 15 "HeatPumpPlant$Curve" "supplies" "[I") (List.mem_of_getElem? (i := 2) rfl)) (fun _ h9 => h9) rfl dX3_supplyAt_15 ?_
    refine lv_aload_n hx hb dX3_supplyAt_18 rfl (lv_at hl 1 rfl) ?_
    refine va_get (D := D) (ci := 3) (v := .int x0.2.2) (C := RX3) (T := TX3) (N := 3) hx hb hts hinX3 hown hQ.1 hP 0 rfl rfl 2 (by decide) (hts (.fieldLink RX3 18 "HeatPumpPlant$Curve" "count" "I") (List.mem_of_getElem? (i := 1) rfl)) (fun _ h9 => h9) rfl dX3_supplyAt_19 ?_
    refine lv_iconst (v := (1 : Int32)) hx hb dX3_supplyAt_22 (by decide) ?_
    refine lv_isub hx hb dX3_supplyAt_23 ?_
    refine lv_sipush (v := (-9999 : Int32)) hx hb dX3_supplyAt_24 (by decide) ?_
    have hPc : va_P D vwCl (wF [gI cI b2 6 x0.2.1]) s.heap := hP.sub [2] rfl
    refine c_Ri (va_runSN (As := [.ref b2, .int (x0.2.2 - (1 : Int32)), .int (-9999 : Int32)]) (rest := []) ⟨hx, hb, hml, hown, hts⟩ (m10_elementOr l D cI cL cP b2 6 x0.2.1 (x0.2.2 - (1 : Int32)) (-9999 : Int32) (by decide) s.heap) ⟨va_cnB 3 hts gX3_supplyAt_X10_elementOr_n34 rfl rfl rfl (hQ.2 (RX3, 34, yX10_elementOr, "HeatPumpPlant") (List.mem_of_getElem? (i := 13) rfl)) (hts (.initialized RX10) (List.mem_of_getElem? (i := 10) rfl)) (by decide +kernel) ⟨Nat.le_of_ble_eq_true rfl, Nat.le_of_ble_eq_true rfl⟩, (hts (.static yX10_elementOr) (List.mem_of_getElem? (i := 9) rfl)), trivial⟩ (preR_S hQ hPc) rfl rfl hl.1 rfl (lv_room (Nat.le_of_ble_eq_true rfl)) dX3_supplyAt_27 ⟨Nat.le_of_ble_eq_true rfl, Nat.le_of_ble_eq_true rfl⟩) hS (fun locs hS => ?_)
    exact W.iret (v := (F10_elementOr 6 x0.2.1 (x0.2.2 - (1 : Int32)) (-9999 : Int32))) hx hb hr (fun t ht hW => ⟨⟨(F10_elementOr 6 x0.2.1 (x0.2.2 - (1 : Int32)) (-9999 : Int32)), (), rfl, ((Eq.trans (if_pos c1) (rfl)).symm), ht⟩, hS.F ht⟩) hS.2.2 dX3_supplyAt_30
