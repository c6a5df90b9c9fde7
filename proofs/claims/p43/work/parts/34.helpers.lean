def F12_low (p1 : Int32) (p2 : Int32) : Int32 := ((p1 &&& (2147483647 : Int32)) - (p1 &&& (2147483647 : Int32)) / p2 * p2)
set_option maxHeartbeats 4000000 in
set_option maxRecDepth 100000 in
theorem m12_low (l : Launch) (D : va_G) (cI cL cP : ClassId) (p1 : Int32) (p2 : Int32) (h0 : ¬ p2 = 0) (H0 : Heap) : Met l yX12_low wsX12_low ({ frames := 0, cells := 0, slots := 0, locals := 0 }) (va_Pc [.int p1, .int p2] (pR D cI cL cP H0 (wF []))) (va_Qi (fun (r : Int32) (_ : Unit) => r = F12_low p1 p2) (qE H0) nF) 0 0 nF := by
  refine Met.ofW (cc := cX12_low) (maxL := 2) (ret := (some .int)) (by decide) rfl ?_
  intro p e s m args below meth c s₁ B hml hv
  obtain ⟨rfl, rfl, hP, hQ⟩ := hv
  have hx := B.exec
  have hb := B.bytes
  have hr := B.returns
  have hts := atoms_spec (ws := wsX12_low) B.pre
  have hown : s.vm.findClass RX12 = some m.cls := findClass_of_methodNamed B.named
  have hlocks := B.notSynchronized
  have hS : va_S nF s.heap s.heap [] := va_S.rf
  have hl := lv_entry ([.int p1, .int p2]) (n := 2) (Nat.le_of_ble_eq_true rfl)
  rw [lg_entry_eq]
  generalize (lg_sl ([.int p1, .int p2]) ++ List.replicate (2 - (lg_sl ([.int p1, .int p2])).length) Slot.unset).toArray = ls at hl ⊢
  have hl : lv_has ls 2 [(0, .int p1), (1, .int p2)] := hl
  refine lv_iload_n hx hb dX12_low_0 rfl (lv_at hl 0 rfl) ?_
  refine lv_ldc (own := RX12) (index := 7) (v := (2147483647 : Int32)) hx hb hown (hts (.constant RX12 7 (2147483647)) (List.mem_of_getElem? (i := 1) rfl)) dX12_low_1 ?_
  refine lv_iand hx hb dX12_low_3 ?_
  refine lv_iload_n hx hb dX12_low_4 rfl (lv_at hl 1 rfl) ?_
  refine lv_irem hx hb dX12_low_5 h0 ?_
  exact W.iret (v := ((p1 &&& (2147483647 : Int32)) - (p1 &&& (2147483647 : Int32)) / p2 * p2)) hx hb hr (fun t ht hW => ⟨⟨((p1 &&& (2147483647 : Int32)) - (p1 &&& (2147483647 : Int32)) / p2 * p2), (), rfl, ((rfl).symm), ht⟩, hS.F ht⟩) hS.2.2 dX12_low_6
def L12_demands_5 (u : PlS) (p2 : Int32) (p3 : Int32) : Nat → Int32 → Int64 → Int32 × Int64
  | 0, _, _ => default
  | fu + 1, i, zz => (if (p2 + p3) ≤ i then (i, zz) else ((L12_demands_5 u p2 p3 fu) (i + (1 : Int32)) (zz + (F10_demand u ((i / (60 : Int32)) - (i / (60 : Int32)) / (24 : Int32) * (24 : Int32))).toInt64)))
def K12_demands_1 (u : PlS) (p2 : Int32) (p3 : Int32) (z2 : Int32 × Int64) : Int64 := z2.2
def F12_demands (u : PlS) (p2 : Int32) (p3 : Int32) : Int64 := (K12_demands_1 u p2 p3 (L12_demands_5 u p2 p3 (((p2 + p3).toInt - p2.toInt).toNat + 1) p2 (0 : Int64)))
set_option maxHeartbeats 4000000 in
set_option maxRecDepth 100000 in
theorem m12_demands (l : Launch) (D : va_G) (cI cL cP : ClassId) (b0 : Nat) (b1 : Nat) (b2 : Nat) (b3 : Nat) (a4 : Nat → Nat) (u : PlS) (p2 : Int32) (p3 : Int32) (H0 : Heap) : Met l yX12_demands wsX12_demands ({ frames := 4, cells := 0, slots := 0, locals := 86 }) (va_Pc [.ref b0, .int p2, .int p3] (pR D cI cL cP H0 (wF [gX b0 (a4 0) b1 b2 b3, gO (a4 0) (a4 1) (a4 3) (a4 7) (a4 10) (a4 12) (a4 14) (a4 16) (pT u), gS cI (a4 1) (a4 2) (pS u), gWe cI (a4 3) (a4 4) (a4 5) (a4 6) (pW u), gK cI (a4 7) (a4 8) (a4 9) (pK u), gB cL (a4 10) (a4 11) (pB u), gP cI (a4 12) (a4 13) (pP u), gA cI (a4 14) (a4 15) (pA u), gC (a4 16) (pC u)]))) (va_Ql (fun (r : Int64) (_ : Unit) => r = F12_demands u p2 p3) (qE H0) nF) 0 0 nF := by
  refine Met.ofW (cc := cX12_demands) (maxL := 6) (ret := (some .long)) (by decide) rfl ?_
  intro p e s m args below meth c s₁ B hml hv
  obtain ⟨rfl, rfl, hP, hQ⟩ := hv
  have hx := B.exec
  have hb := B.bytes
  have hr := B.returns
  have hts := atoms_spec (ws := wsX12_demands) B.pre
  have hown : s.vm.findClass RX12 = some m.cls := findClass_of_methodNamed B.named
  have hlocks := B.notSynchronized
  have hS : va_S nF s.heap s.heap [] := va_S.rf
  have hl := lv_entry ([.ref b0, .int p2, .int p3]) (n := 6) (Nat.le_of_ble_eq_true rfl)
  rw [lg_entry_eq]
  generalize (lg_sl ([.ref b0, .int p2, .int p3]) ++ List.replicate (6 - (lg_sl ([.ref b0, .int p2, .int p3])).length) Slot.unset).toArray = ls at hl ⊢
  have hl : lv_has ls 6 [(0, .ref b0), (1, .int p2), (2, .int p3)] := hl
  have hinX5 : ∀ w ∈ wsX50, w ∈ wsX12_demands := fun _ h => List.mem_cons_of_mem _ (List.mem_append_left _ (List.mem_append_left _ (List.mem_append_right _ h)))
  have hinX7 : ∀ w ∈ wsX70, w ∈ wsX12_demands := fun _ h => List.mem_cons_of_mem _ (List.mem_append_right _ h)
  have hinX8 : ∀ w ∈ wsX80, w ∈ wsX12_demands := fun _ h => List.mem_cons_of_mem _ (List.mem_append_left _ (List.mem_append_right _ h))
  have hinX10 : ∀ w ∈ wsX100, w ∈ wsX12_demands := fun _ h => List.mem_cons_of_mem _ (List.mem_append_left _ (List.mem_append_left _ (List.mem_append_left _ (List.mem_append_right _ h))))
  refine lv_lconst (v := (0 : Int64)) hx hb dX12_demands_0 rfl ?_
  refine lv_lstore_n (lv' := [(3, .long (0 : Int64)), (0, .ref b0), (1, .int p2), (2, .int p3)]) hx hb dX12_demands_1 rfl hl (by decide) rfl (fun ls hl => ?_)
  refine lv_iload_n hx hb dX12_demands_2 rfl (lv_at hl 2 rfl) ?_
  refine lv_istore (lv' := [(5, .int p2), (3, .long (0 : Int64)), (0, .ref b0), (1, .int p2), (2, .int p3)]) hx hb dX12_demands_3 hl (by decide) rfl (fun ls hl => ?_)
  have loop5 : ∀ (fu : Nat) (i : Int32) (zz : Int64) (hm : ((p2 + p3).toInt - i.toInt).toNat < fu) (kk : ∀ z : Int32 × Int64, z = L12_demands_5 u p2 p3 fu i zz → ∀ (locs : List Loc) (_ : va_S nF s.heap s.heap locs) (ls : Array Slot) (_ : lv_has ls 6 [(5, .int z.1), (3, .long z.2), (0, .ref b0), (1, .int p2), (2, .int p3)]), W p l e (headSpec wsX12_demands ({ frames := 4, cells := 0, slots := 0, locals := 86 })).room s m #[.ref b0, .int p2, .int p3] below meth c s.heap locs 0 0 (MQ below (va_Ql (fun (r : Int64) (_ : Unit) => r = F12_demands u p2 p3) (qE s.heap) nF) #[.ref b0, .int p2, .int p3] s 0 0 nF) (F0 m 35 ls [])), ∀ (locs : List Loc) (_ : va_S nF s.heap s.heap locs) (ls : Array Slot) (_ : lv_has ls 6 [(5, .int i), (3, .long zz), (0, .ref b0), (1, .int p2), (2, .int p3)]), W p l e (headSpec wsX12_demands ({ frames := 4, cells := 0, slots := 0, locals := 86 })).room s m #[.ref b0, .int p2, .int p3] below meth c s.heap locs 0 0 (MQ below (va_Ql (fun (r : Int64) (_ : Unit) => r = F12_demands u p2 p3) (qE s.heap) nF) #[.ref b0, .int p2, .int p3] s 0 0 nF) (F0 m 5 ls []) := by
    intro fu
    induction fu with
    | zero => intro i zz  hm; exact absurd hm (by omega)
    | succ fu ih =>
      intro i zz  hm kk locs hS ls hl
      refine lv_iload hx hb dX12_demands_5 (lv_at hl 0 rfl) ?_
      refine lv_iload_n hx hb dX12_demands_7 rfl (lv_at hl 3 rfl) ?_
      refine lv_iload_n hx hb dX12_demands_8 rfl (lv_at hl 4 rfl) ?_
      refine lv_iadd hx hb dX12_demands_9 ?_
      refine lv_icmp_ge (tgt := 35) hx hb dX12_demands_10 (by decide) (fun c1 => ?_) (fun c1 => ?_)
      · have c1 : (p2 + p3) ≤ i := c1
        exact kk (i, zz) ((Eq.trans (if_pos c1) (rfl)).symm) locs hS ls (lv_sub hl [0, 1, 2, 3, 4] rfl)
      · have c1 : ¬ ((p2 + p3) ≤ i) := c1
        refine lv_lload_n hx hb dX12_demands_13 rfl (lv_at hl 1 rfl) ?_
        refine lv_aload_n hx hb dX12_demands_14 rfl (lv_at hl 2 rfl) ?_
        refine lv_iload hx hb dX12_demands_15 (lv_at hl 0 rfl) ?_
        refine lv_bipush (v := (60 : Int32)) hx hb dX12_demands_17 (by decide) ?_
        refine lv_idiv hx hb dX12_demands_19 (by decide) ?_
        refine lv_bipush (v := (24 : Int32)) hx hb dX12_demands_20 (by decide) ?_
        refine lv_irem hx hb dX12_demands_22 (by decide) ?_
        have hPc : va_P D vwCl (wF [gX b0 (a4 0) b1 b2 b3, gO (a4 0) (a4 1) (a4 3) (a4 7) (a4 10) (a4 12) (a4 14) (a4 16) (pT u), gS cI (a4 1) (a4 2) (pS u), gWe cI (a4 3) (a4 4) (a4 5) (a4 6) (pW u), gK cI (a4 7) (a4 8) (a4 9) (pK u), gB cL (a4 10) (a4 11) (pB u), gP cI (a4 12) (a4 13) (pP u), gA cI (a4 14) (a4 15) (pA u), gC (a4 16) (pC u)]) s.heap := hP.sub [0, 1, 2, 3, 4, 5, 6, 7, 8, 9, 10, 11, 12, 13, 14, 15, 16, 17] rfl
        refine c_Ri (va_runV (As := [.int ((i / (60 : Int32)) - (i / (60 : Int32)) / (24 : Int32) * (24 : Int32))]) (rest := [.long zz]) ⟨hx, hb, hml, hown, hts⟩ (m10_demand l D cI cL cP b0 b1 b2 b3 a4 u ((i / (60 : Int32)) - (i / (60 : Int32)) / (24 : Int32) * (24 : Int32)) s.heap) (cwV 1 hts gX12_demands_X10_demand rfl rfl rfl (by decide +kernel) ⟨Nat.le_of_ble_eq_true rfl, Nat.le_of_ble_eq_true rfl⟩) (preR_V (q := (RX10, TX10, 4)) (q0 := 0) hQ hPc rfl rfl) rfl rfl hl.1 rfl (lv_room (Nat.le_of_ble_eq_true rfl)) dX12_demands_23 ⟨Nat.le_of_ble_eq_true rfl, Nat.le_of_ble_eq_true rfl⟩) hS (fun locs hS => ?_)
        refine lv_i2l hx hb dX12_demands_26 rfl ?_
        refine lv_ladd hx hb dX12_demands_27 ?_
        refine lv_lstore_n (lv' := [(3, .long (zz + (F10_demand u ((i / (60 : Int32)) - (i / (60 : Int32)) / (24 : Int32) * (24 : Int32))).toInt64)), (5, .int i), (0, .ref b0), (1, .int p2), (2, .int p3)]) hx hb dX12_demands_28 rfl hl (by decide) rfl (fun ls hl => ?_)
        refine lv_iinc (v := (i + (1 : Int32))) (lv' := [(5, .int (i + (1 : Int32))), (3, .long (zz + (F10_demand u ((i / (60 : Int32)) - (i / (60 : Int32)) / (24 : Int32) * (24 : Int32))).toInt64)), (0, .ref b0), (1, .int p2), (2, .int p3)]) hx hb dX12_demands_29 hl (k := 1) rfl rfl (by decide) rfl (fun ls hl => ?_)
        refine lv_goto (tgt := 5) hx hb dX12_demands_32 (by decide) ?_
        exact ih (i + (1 : Int32)) (zz + (F10_demand u ((i / (60 : Int32)) - (i / (60 : Int32)) / (24 : Int32) * (24 : Int32))).toInt64) (w_inc c1 hm) (fun z hz => kk z (hz.trans ((Eq.trans (if_neg c1) (rfl)).symm))) locs hS ls (lv_sub hl [0, 1, 2, 3, 4] rfl)
  refine loop5 (((p2 + p3).toInt - p2.toInt).toNat + 1) p2 (0 : Int64) (Nat.lt_succ_self _) (fun z2 hz2  locs hS ls hl => ?_) [] hS ls (lv_sub hl [0, 1, 2, 3, 4] rfl)
  refine lv_lload_n hx hb dX12_demands_35 rfl (lv_at hl 1 rfl) ?_
  exact W.lret (v := z2.2) hx hb hr (fun t ht hW => ⟨⟨z2.2, (), rfl, ((Eq.trans (congrArg (K12_demands_1 u p2 p3) hz2.symm) (rfl)).symm), ht⟩, hS.F ht⟩) hS.2.2 dX12_demands_36
def F12_net (u : PlS) : Int64 := ((((F10_produced u) - (F10_defrostHeat u)) - (F10_drawn u)) - (F10_lost u))
set_option maxHeartbeats 4000000 in
set_option maxRecDepth 100000 in
theorem m12_net (l : Launch) (D : va_G) (cI cL cP : ClassId) (b0 : Nat) (b1 : Nat) (b2 : Nat) (b3 : Nat) (a4 : Nat → Nat) (u : PlS) (H0 : Heap) : Met l yX12_net wsX12_net ({ frames := 1, cells := 0, slots := 0, locals := 20 }) (va_Pc [.ref b0] (pR D cI cL cP H0 (wF [gX b0 (a4 0) b1 b2 b3, gO (a4 0) (a4 1) (a4 3) (a4 7) (a4 10) (a4 12) (a4 14) (a4 16) (pT u), gS cI (a4 1) (a4 2) (pS u), gWe cI (a4 3) (a4 4) (a4 5) (a4 6) (pW u), gK cI (a4 7) (a4 8) (a4 9) (pK u), gB cL (a4 10) (a4 11) (pB u), gP cI (a4 12) (a4 13) (pP u), gA cI (a4 14) (a4 15) (pA u), gC (a4 16) (pC u)]))) (va_Ql (fun (r : Int64) (_ : Unit) => r = F12_net u) (qE H0) nF) 0 0 nF := by
  refine Met.ofW (cc := cX12_net) (maxL := 1) (ret := (some .long)) (by decide) rfl ?_
  intro p e s m args below meth c s₁ B hml hv
  obtain ⟨rfl, rfl, hP, hQ⟩ := hv
  have hx := B.exec
  have hb := B.bytes
  have hr := B.returns
  have hts := atoms_spec (ws := wsX12_net) B.pre
  have hown : s.vm.findClass RX12 = some m.cls := findClass_of_methodNamed B.named
  have hlocks := B.notSynchronized
  have hS : va_S nF s.heap s.heap [] := va_S.rf
  have hl := lv_entry ([.ref b0]) (n := 1) (Nat.le_of_ble_eq_true rfl)
  rw [lg_entry_eq]
  generalize (lg_sl ([.ref b0]) ++ List.replicate (1 - (lg_sl ([.ref b0])).length) Slot.unset).toArray = ls at hl ⊢
  have hl : lv_has ls 1 [(0, .ref b0)] := hl
  have hinX0 : ∀ w ∈ wsX00, w ∈ wsX12_net := fun _ h => List.mem_cons_of_mem _ (List.mem_append_right _ h)
  have hinX5 : ∀ w ∈ wsX50, w ∈ wsX12_net := fun _ h => List.mem_cons_of_mem _ (List.mem_append_left _ (List.mem_append_right _ h))
  have hinX10 : ∀ w ∈ wsX100, w ∈ wsX12_net := fun _ h => List.mem_cons_of_mem _ (List.mem_append_left _ (List.mem_append_left _ (List.mem_append_right _ h)))
  refine lv_aload_n hx hb dX12_net_0 rfl (lv_at hl 0 rfl) ?_
  have hPc : va_P D vwCl (wF [gX b0 (a4 0) b1 b2 b3, gO (a4 0) (a4 1) (a4 3) (a4 7) (a4 10) (a4 12) (a4 14) (a4 16) (pT u), gS cI (a4 1) (a4 2) (pS u), gWe cI (a4 3) (a4 4) (a4 5) (a4 6) (pW u), gK cI (a4 7) (a4 8) (a4 9) (pK u), gB cL (a4 10) (a4 11) (pB u), gP cI (a4 12) (a4 13) (pP u), gA cI (a4 14) (a4 15) (pA u), gC (a4 16) (pC u)]) s.heap := hP.sub [0, 1, 2, 3, 4, 5, 6, 7, 8, 9, 10, 11, 12, 13, 14, 15, 16, 17] rfl
  refine c_Rl (va_runV (As := []) (rest := []) ⟨hx, hb, hml, hown, hts⟩ (m10_produced l D cI cL cP b0 b1 b2 b3 a4 u s.heap) (cwV 0 hts gX12_net_X10_produced rfl rfl rfl (by decide +kernel) ⟨Nat.le_of_ble_eq_true rfl, Nat.le_of_ble_eq_true rfl⟩) (preR_V (q := (RX10, TX10, 4)) (q0 := 0) hQ hPc rfl rfl) rfl rfl hl.1 rfl (lv_room (Nat.le_of_ble_eq_true rfl)) dX12_net_1 ⟨Nat.le_of_ble_eq_true rfl, Nat.le_of_ble_eq_true rfl⟩) hS (fun locs hS => ?_)
  refine lv_aload_n hx hb dX12_net_4 rfl (lv_at hl 0 rfl) ?_
  have hPc : va_P D vwCl (wF [gX b0 (a4 0) b1 b2 b3, gO (a4 0) (a4 1) (a4 3) (a4 7) (a4 10) (a4 12) (a4 14) (a4 16) (pT u), gS cI (a4 1) (a4 2) (pS u), gWe cI (a4 3) (a4 4) (a4 5) (a4 6) (pW u), gK cI (a4 7) (a4 8) (a4 9) (pK u), gB cL (a4 10) (a4 11) (pB u), gP cI (a4 12) (a4 13) (pP u), gA cI (a4 14) (a4 15) (pA u), gC (a4 16) (pC u)]) s.heap := hP.sub [0, 1, 2, 3, 4, 5, 6, 7, 8, 9, 10, 11, 12, 13, 14, 15, 16, 17] rfl
  refine c_Rl (va_runV (As := []) (rest := [.long (F10_produced u)]) ⟨hx, hb, hml, hown, hts⟩ (m10_defrostHeat l D cI cL cP b0 b1 b2 b3 a4 u s.heap) (cwV 0 hts gX12_net_X10_defrostHeat rfl rfl rfl (by decide +kernel) ⟨Nat.le_of_ble_eq_true rfl, Nat.le_of_ble_eq_true rfl⟩) (preR_V (q := (RX10, TX10, 4)) (q0 := 0) hQ hPc rfl rfl) rfl rfl hl.1 rfl (lv_room (Nat.le_of_ble_eq_true rfl)) dX12_net_5 ⟨Nat.le_of_ble_eq_true rfl, Nat.le_of_ble_eq_true rfl⟩) hS (fun locs hS => ?_)
  refine lv_lsub hx hb dX12_net_8 ?_
  refine lv_aload_n hx hb dX12_net_9 rfl (lv_at hl 0 rfl) ?_
  have hPc : va_P D vwCl (wF [gX b0 (a4 0) b1 b2 b3, gO (a4 0) (a4 1) (a4 3) (a4 7) (a4 10) (a4 12) (a4 14) (a4 16) (pT u), gS cI (a4 1) (a4 2) (pS u), gWe cI (a4 3) (a4 4) (a4 5) (a4 6) (pW u), gK cI (a4 7) (a4 8) (a4 9) (pK u), gB cL (a4 10) (a4 11) (pB u), gP cI (a4 12) (a4 13) (pP u), gA cI (a4 14) (a4 15) (pA u), gC (a4 16) (pC u)]) s.heap := hP.sub [0, 1, 2, 3, 4, 5, 6, 7, 8, 9, 10, 11, 12, 13, 14, 15, 16, 17] rfl
  refine c_Rl (va_runV (As := []) (rest := [.long ((F10_produced u) - (F10_defrostHeat u))]) ⟨hx, hb, hml, hown, hts⟩ (m10_drawn l D cI cL cP b0 b1 b2 b3 a4 u s.heap) (cwV 0 hts gX12_net_X10_drawn rfl rfl rfl (by decide +kernel) ⟨Nat.le_of_ble_eq_true rfl, Nat.le_of_ble_eq_true rfl⟩) (preR_V (q := (RX10, TX10, 4)) (q0 := 0) hQ hPc rfl rfl) rfl rfl hl.1 rfl (lv_room (Nat.le_of_ble_eq_true rfl)) dX12_net_10 ⟨Nat.le_of_ble_eq_true rfl, Nat.le_of_ble_eq_true rfl⟩) hS (fun locs hS => ?_)
  refine lv_lsub hx hb dX12_net_13 ?_
  refine lv_aload_n hx hb dX12_net_14 rfl (lv_at hl 0 rfl) ?_
  have hPc : va_P D vwCl (wF [gX b0 (a4 0) b1 b2 b3, gO (a4 0) (a4 1) (a4 3) (a4 7) (a4 10) (a4 12) (a4 14) (a4 16) (pT u), gS cI (a4 1) (a4 2) (pS u), gWe cI (a4 3) (a4 4) (a4 5) (a4 6) (pW u), gK cI (a4 7) (a4 8) (a4 9) (pK u), gB cL (a4 10) (a4 11) (pB u), gP cI (a4 12) (a4 13) (pP u), gA cI (a4 14) (a4 15) (pA u), gC (a4 16) (pC u)]) s.heap := hP.sub [0, 1, 2, 3, 4, 5, 6, 7, 8, 9, 10, 11, 12, 13, 14, 15, 16, 17] rfl
  refine c_Rl (va_runV (As := []) (rest := [.long (((F10_produced u) - (F10_defrostHeat u)) - (F10_drawn u))]) ⟨hx, hb, hml, hown, hts⟩ (m10_lost l D cI cL cP b0 b1 b2 b3 a4 u s.heap) (cwV 0 hts gX12_net_X10_lost rfl rfl rfl (by decide +kernel) ⟨Nat.le_of_ble_eq_true rfl, Nat.le_of_ble_eq_true rfl⟩) (preR_V (q := (RX10, TX10, 4)) (q0 := 0) hQ hPc rfl rfl) rfl rfl hl.1 rfl (lv_room (Nat.le_of_ble_eq_true rfl)) dX12_net_15 ⟨Nat.le_of_ble_eq_true rfl, Nat.le_of_ble_eq_true rfl⟩) hS (fun locs hS => ?_)
  refine lv_lsub hx hb dX12_net_18 ?_
  exact W.lret (v := ((((F10_produced u) - (F10_defrostHeat u)) - (F10_drawn u)) - (F10_lost u))) hx hb hr (fun t ht hW => ⟨⟨((((F10_produced u) - (F10_defrostHeat u)) - (F10_drawn u)) - (F10_lost u)), (), rfl, ((rfl).symm), ht⟩, hS.F ht⟩) hS.2.2 dX12_net_19
def L12_rules_4 (u : PlS) : Nat → Nat → Int32 → Nat × Int32
  | 0, _, _ => default
  | fu + 1, i, zz => (if 12 ≤ i then (i, zz) else ((L12_rules_4 u fu) (i + 1) (zz + (F10_minutesWith u (nI i)))))
def L12_rules_224 (u : PlS) (z2 : Nat × Int32) : Nat → Nat → Bool
  | 0, _ => default
  | fu + 1, i => (if 24 ≤ i then (if (F10_frost u) < (0 : Int32) then false else (if (F10_drawn u) < (0 : Int64) then false else (if (F10_unmet u) < (0 : Int64) then false else (if (F10_lost u) < (0 : Int64) then false else (if (F10_cost u) < (0 : Int64) then false else (if (F10_electricity u) < (0 : Int64) then false else true)))))) else (if (F10_target u (nI i)) = ((F10_supply u (F10_outdoor u (nI i))) + (if (F10_tariff u (nI i)) = (0 : Int32) then (F10_setting u (5 : Int32)) else (0 : Int32))) then (if (F10_demand u (nI i)) = (if (0 : Int32) ≤ (((F10_setting u (15 : Int32)) - (F10_outdoor u (nI i))) * (F10_setting u (16 : Int32))) then ((((F10_setting u (15 : Int32)) - (F10_outdoor u (nI i))) * (F10_setting u (16 : Int32))) / (10 : Int32)) else (0 : Int32)) then ((L12_rules_224 u z2 fu) (i + 1)) else false) else false))
def T12_rules_222 (u : PlS) (z2 : Nat × Int32)  : Bool := L12_rules_224 u z2 25 0
def T12_rules_177 (u : PlS) (z2 : Nat × Int32)  : Bool := (if (F10_time u) ≤ (0 : Int32) then (if (decide ((F10_pump u) = (2 : Int32))) = true then false else (T12_rules_222 u z2)) else (if (F10_reason u) = (0 : Int32) then (if (bI (decide ((F10_pump u) = (2 : Int32)))) = (1 : Int32) then (T12_rules_222 u z2) else false) else (if (F10_reason u) = (4 : Int32) then (if (bI (decide ((F10_pump u) = (2 : Int32)))) = (1 : Int32) then (T12_rules_222 u z2) else false) else (if (decide ((F10_pump u) = (2 : Int32))) = true then false else (T12_rules_222 u z2)))))
def T12_rules_115 (u : PlS) (z2 : Nat × Int32)  : Bool := (if (F10_time u) ≤ (0 : Int32) then (T12_rules_177 u z2) else (if (F10_reason u) = (1 : Int32) then (if (bI (decide ((F10_pump u) = (0 : Int32)))) = (1 : Int32) then (T12_rules_177 u z2) else false) else (if (F10_reason u) = (3 : Int32) then (if (bI (decide ((F10_pump u) = (0 : Int32)))) = (1 : Int32) then (T12_rules_177 u z2) else false) else (if (F10_reason u) ≤ (5 : Int32) then (if (decide ((F10_pump u) = (0 : Int32))) = true then false else (T12_rules_177 u z2)) else (if (11 : Int32) ≤ (F10_reason u) then (if (decide ((F10_pump u) = (0 : Int32))) = true then false else (T12_rules_177 u z2)) else (if (bI (decide ((F10_pump u) = (0 : Int32)))) = (1 : Int32) then (T12_rules_177 u z2) else false))))))
def K12_rules_1 (u : PlS) (z2 : Nat × Int32) : Bool := (if z2.2 = (F10_time u) then (if (F10_starts u) = (F10_minutesWith u (11 : Int32)) then (if (F10_defrosts u) = (F10_minutesWith u (4 : Int32)) then (if (F10_starts u) < (F10_startsLastHour u) then false else (if (0 : Int32) ≤ (F10_startsLastHour u) then (if (F10_time u) = (0 : Int32) then (if (F10_reason u) = (-9999 : Int32) then (T12_rules_115 u z2) else false) else (if (F10_reason u) < (0 : Int32) then false else (if (F10_reason u) ≤ (11 : Int32) then (T12_rules_115 u z2) else false))) else false)) else false) else false) else false)
def F12_rules (u : PlS) : Bool := (K12_rules_1 u (L12_rules_4 u 13 0 (0 : Int32)))
set_option maxHeartbeats 4000000 in
set_option maxRecDepth 100000 in
theorem m12_rules (l : Launch) (D : va_G) (cI cL cP : ClassId) (b0 : Nat) (b1 : Nat) (b2 : Nat) (b3 : Nat) (a4 : Nat → Nat) (u : PlS) (H0 : Heap) : Met l yX12_rules wsX12_rules ({ frames := 4, cells := 0, slots := 0, locals := 95 }) (va_Pc [.ref b0] (pR D cI cL cP H0 (wF [gX b0 (a4 0) b1 b2 b3, gO (a4 0) (a4 1) (a4 3) (a4 7) (a4 10) (a4 12) (a4 14) (a4 16) (pT u), gS cI (a4 1) (a4 2) (pS u), gWe cI (a4 3) (a4 4) (a4 5) (a4 6) (pW u), gK cI (a4 7) (a4 8) (a4 9) (pK u), gB cL (a4 10) (a4 11) (pB u), gP cI (a4 12) (a4 13) (pP u), gA cI (a4 14) (a4 15) (pA u), gC (a4 16) (pC u)]))) (va_Qi (fun (r : Int32) (_ : Unit) => r = bI (F12_rules u)) (qE H0) nF) 0 0 nF := by
  refine Met.ofW (cc := cX12_rules) (maxL := 5) (ret := (some .boolean)) (by decide) rfl ?_
  intro p e s m args below meth c s₁ B hml hv
  obtain ⟨rfl, rfl, hP, hQ⟩ := hv
  have hx := B.exec
  have hb := B.bytes
  have hr := B.returns
  have hts := atoms_spec (ws := wsX12_rules) B.pre
  have hown : s.vm.findClass RX12 = some m.cls := findClass_of_methodNamed B.named
  have hlocks := B.notSynchronized
  have hS : va_S nF s.heap s.heap [] := va_S.rf
  have hl := lv_entry ([.ref b0]) (n := 5) (Nat.le_of_ble_eq_true rfl)
  rw [lg_entry_eq]
  generalize (lg_sl ([.ref b0]) ++ List.replicate (5 - (lg_sl ([.ref b0])).length) Slot.unset).toArray = ls at hl ⊢
  have hl : lv_has ls 5 [(0, .ref b0)] := hl
  have hinX0 : ∀ w ∈ wsX00, w ∈ wsX12_rules := fun _ h => List.mem_cons_of_mem _ (List.mem_append_left _ (List.mem_append_left _ (List.mem_append_left _ (List.mem_append_left _ (List.mem_append_right _ h)))))
  have hinX3 : ∀ w ∈ wsX30, w ∈ wsX12_rules := fun _ h => List.mem_cons_of_mem _ (List.mem_append_right _ h)
  have hinX5 : ∀ w ∈ wsX50, w ∈ wsX12_rules := fun _ h => List.mem_cons_of_mem _ (List.mem_append_left _ (List.mem_append_left _ (List.mem_append_left _ (List.mem_append_left _ (List.mem_append_left _ (List.mem_append_right _ h))))))
  have hinX6 : ∀ w ∈ wsX60, w ∈ wsX12_rules := fun _ h => List.mem_cons_of_mem _ (List.mem_append_left _ (List.mem_append_left _ (List.mem_append_left _ (List.mem_append_right _ h))))
  have hinX7 : ∀ w ∈ wsX70, w ∈ wsX12_rules := fun _ h => List.mem_cons_of_mem _ (List.mem_append_left _ (List.mem_append_left _ (List.mem_append_right _ h)))
  have hinX8 : ∀ w ∈ wsX80, w ∈ wsX12_rules := fun _ h => List.mem_cons_of_mem _ (List.mem_append_left _ (List.mem_append_right _ h))
  have hinX10 : ∀ w ∈ wsX100, w ∈ wsX12_rules := fun _ h => List.mem_cons_of_mem _ (List.mem_append_left _ (List.mem_append_left _ (List.mem_append_left _ (List.mem_append_left _ (List.mem_append_left _ (List.mem_append_left _ (List.mem_append_right _ h)))))))
  refine lv_iconst (v := (0 : Int32)) hx hb dX12_rules_0 (by decide) ?_
  refine lv_istore_n (lv' := [(1, .int (0 : Int32)), (0, .ref b0)]) hx hb dX12_rules_1 rfl hl (by decide) rfl (fun ls hl => ?_)
  refine lv_iconst (v := (0 : Int32)) hx hb dX12_rules_2 (by decide) ?_
  refine lv_istore_n (lv' := [(2, .int (0 : Int32)), (1, .int (0 : Int32)), (0, .ref b0)]) hx hb dX12_rules_3 rfl hl (by decide) rfl (fun ls hl => ?_)
  have loop4 : ∀ (fu : Nat) (i : Nat) (zz : Int32) (hi : i ≤ 12) (hm : 12 - i < fu) (kk : ∀ z : Nat × Int32, z = L12_rules_4 u fu i zz → ((z.1) ≤ 12) → ∀ (locs : List Loc) (_ : va_S nF s.heap s.heap locs) (ls : Array Slot) (_ : lv_has ls 5 [(2, .int (nI z.1)), (1, .int z.2), (0, .ref b0)]), W p l e (headSpec wsX12_rules ({ frames := 4, cells := 0, slots := 0, locals := 95 })).room s m #[.ref b0] below meth c s.heap locs 0 0 (MQ below (va_Qi (fun (r : Int32) (_ : Unit) => r = bI (F12_rules u)) (qE s.heap) nF) #[.ref b0] s 0 0 nF) (F0 m 24 ls [])), ∀ (locs : List Loc) (_ : va_S nF s.heap s.heap locs) (ls : Array Slot) (_ : lv_has ls 5 [(2, .int (nI i)), (1, .int zz), (0, .ref b0)]), W p l e (headSpec wsX12_rules ({ frames := 4, cells := 0, slots := 0, locals := 95 })).room s m #[.ref b0] below meth c s.heap locs 0 0 (MQ below (va_Qi (fun (r : Int32) (_ : Unit) => r = bI (F12_rules u)) (qE s.heap) nF) #[.ref b0] s 0 0 nF) (F0 m 4 ls []) := by
    intro fu
    induction fu with
    | zero => intro i zz hi hm; exact absurd hm (by omega)
    | succ fu ih =>
      intro i zz hi hm kk locs hS ls hl
      refine lv_iload_n hx hb dX12_rules_4 rfl (lv_at hl 0 rfl) ?_
      refine lv_bipush (v := (12 : Int32)) hx hb dX12_rules_5 (by decide) ?_
      refine lv_icmp_ge (tgt := 24) hx hb dX12_rules_7 (by decide) (fun c1 => ?_) (fun c1 => ?_)
      · have c1 : 12 ≤ i := (nI_leI (a := 12) (b := i) (by omega) (by omega)).mp c1
        exact kk (i, zz) ((Eq.trans (if_pos c1) (rfl)).symm) hi locs hS ls (lv_sub hl [0, 1, 2] rfl)
      · have c1 : ¬ (12 ≤ i) := fun h9 => c1 ((nI_leI (a := 12) (b := i) (by omega) (by omega)).mpr h9)
        refine lv_iload_n hx hb dX12_rules_10 rfl (lv_at hl 1 rfl) ?_
        refine lv_aload_n hx hb dX12_rules_11 rfl (lv_at hl 2 rfl) ?_
        refine lv_iload_n hx hb dX12_rules_12 rfl (lv_at hl 0 rfl) ?_
        have hPc : va_P D vwCl (wF [gX b0 (a4 0) b1 b2 b3, gO (a4 0) (a4 1) (a4 3) (a4 7) (a4 10) (a4 12) (a4 14) (a4 16) (pT u), gS cI (a4 1) (a4 2) (pS u), gWe cI (a4 3) (a4 4) (a4 5) (a4 6) (pW u), gK cI (a4 7) (a4 8) (a4 9) (pK u), gB cL (a4 10) (a4 11) (pB u), gP cI (a4 12) (a4 13) (pP u), gA cI (a4 14) (a4 15) (pA u), gC (a4 16) (pC u)]) s.heap := hP.sub [0, 1, 2, 3, 4, 5, 6, 7, 8, 9, 10, 11, 12, 13, 14, 15, 16, 17] rfl
        refine c_Ri (va_runV (As := [.int (nI i)]) (rest := [.int zz]) ⟨hx, hb, hml, hown, hts⟩ (m10_minutesWith l D cI cL cP b0 b1 b2 b3 a4 u (nI i) s.heap) (cwV 1 hts gX12_rules_X10_minutesWith rfl rfl rfl (by decide +kernel) ⟨Nat.le_of_ble_eq_true rfl, Nat.le_of_ble_eq_true rfl⟩) (preR_V (q := (RX10, TX10, 4)) (q0 := 0) hQ hPc rfl rfl) rfl rfl hl.1 rfl (lv_room (Nat.le_of_ble_eq_true rfl)) dX12_rules_13 ⟨Nat.le_of_ble_eq_true rfl, Nat.le_of_ble_eq_true rfl⟩) hS (fun locs hS => ?_)
        refine lv_iadd hx hb dX12_rules_16 ?_
        refine lv_istore_n (lv' := [(1, .int (zz + (F10_minutesWith u (nI i)))), (2, .int (nI i)), (0, .ref b0)]) hx hb dX12_rules_17 rfl hl (by decide) rfl (fun ls hl => ?_)
        refine lv_iinc (v := (nI (i + 1))) (lv' := [(2, .int (nI (i + 1))), (1, .int (zz + (F10_minutesWith u (nI i)))), (0, .ref b0)]) hx hb dX12_rules_18 hl (k := 1) rfl (nI_add i 1) (by decide) rfl (fun ls hl => ?_)
        refine lv_goto (tgt := 4) hx hb dX12_rules_21 (by decide) ?_
        exact ih (i + 1) (zz + (F10_minutesWith u (nI i))) (by omega) (by omega) (fun z hz => kk z (hz.trans ((Eq.trans (if_neg c1) (rfl)).symm))) locs hS ls (lv_sub hl [0, 1, 2] rfl)
  refine loop4 13 0 (0 : Int32) (by omega) (by omega) (fun z2 hz2 hi_z2 locs hS ls hl => ?_) [] hS ls (lv_sub hl [0, 1, 2] rfl)
  refine lv_iload_n hx hb dX12_rules_24 rfl (lv_at hl 1 rfl) ?_
  refine lv_aload_n hx hb dX12_rules_25 rfl (lv_at hl 2 rfl) ?_
  have hPc : va_P D vwCl (wF [gX b0 (a4 0) b1 b2 b3, gO (a4 0) (a4 1) (a4 3) (a4 7) (a4 10) (a4 12) (a4 14) (a4 16) (pT u), gS cI (a4 1) (a4 2) (pS u), gWe cI (a4 3) (a4 4) (a4 5) (a4 6) (pW u), gK cI (a4 7) (a4 8) (a4 9) (pK u), gB cL (a4 10) (a4 11) (pB u), gP cI (a4 12) (a4 13) (pP u), gA cI (a4 14) (a4 15) (pA u), gC (a4 16) (pC u)]) s.heap := hP.sub [0, 1, 2, 3, 4, 5, 6, 7, 8, 9, 10, 11, 12, 13, 14, 15, 16, 17] rfl
  refine c_Ri (va_runV (As := []) (rest := [.int z2.2]) ⟨hx, hb, hml, hown, hts⟩ (m10_time l D cI cL cP b0 b1 b2 b3 a4 u s.heap) (cwV 0 hts gX12_rules_X10_time rfl rfl rfl (by decide +kernel) ⟨Nat.le_of_ble_eq_true rfl, Nat.le_of_ble_eq_true rfl⟩) (preR_V (q := (RX10, TX10, 4)) (q0 := 0) hQ hPc rfl rfl) rfl rfl hl.1 rfl (lv_room (Nat.le_of_ble_eq_true rfl)) dX12_rules_26 ⟨Nat.le_of_ble_eq_true rfl, Nat.le_of_ble_eq_true rfl⟩) hS (fun locs hS => ?_)
  refine lv_icmp_ne (tgt := 75) hx hb dX12_rules_29 (by decide) (fun c3 => ?_) (fun c3 => ?_)
  · have c3 : ¬ (z2.2 = (F10_time u)) := c3
    refine lv_iconst (v := (0 : Int32)) hx hb dX12_rules_75 (by decide) ?_
    exact W.zret (v := (0 : Int32)) (ty := .boolean) hx hb hr rfl (fun t ht hW => ⟨⟨(0 : Int32), (), rfl, ((congrArg bI (show F12_rules u = false from Eq.trans (congrArg (K12_rules_1 u) hz2.symm) (Eq.trans (if_neg c3) (rfl)))).symm), ht⟩, hS.F ht⟩) hS.2.2 dX12_rules_76
  · have c3 : z2.2 = (F10_time u) := c3
    refine lv_aload_n hx hb dX12_rules_32 rfl (lv_at hl 2 rfl) ?_
    have hPc : va_P D vwCl (wF [gX b0 (a4 0) b1 b2 b3, gO (a4 0) (a4 1) (a4 3) (a4 7) (a4 10) (a4 12) (a4 14) (a4 16) (pT u), gS cI (a4 1) (a4 2) (pS u), gWe cI (a4 3) (a4 4) (a4 5) (a4 6) (pW u), gK cI (a4 7) (a4 8) (a4 9) (pK u), gB cL (a4 10) (a4 11) (pB u), gP cI (a4 12) (a4 13) (pP u), gA cI (a4 14) (a4 15) (pA u), gC (a4 16) (pC u)]) s.heap := hP.sub [0, 1, 2, 3, 4, 5, 6, 7, 8, 9, 10, 11, 12, 13, 14, 15, 16, 17] rfl
    refine c_Ri (va_runV (As := []) (rest := []) ⟨hx, hb, hml, hown, hts⟩ (m10_starts l D cI cL cP b0 b1 b2 b3 a4 u s.heap) (cwV 0 hts gX12_rules_X10_starts rfl rfl rfl (by decide +kernel) ⟨Nat.le_of_ble_eq_true rfl, Nat.le_of_ble_eq_true rfl⟩) (preR_V (q := (RX10, TX10, 4)) (q0 := 0) hQ hPc rfl rfl) rfl rfl hl.1 rfl (lv_room (Nat.le_of_ble_eq_true rfl)) dX12_rules_33 ⟨Nat.le_of_ble_eq_true rfl, Nat.le_of_ble_eq_true rfl⟩) hS (fun locs hS => ?_)
    refine lv_aload_n hx hb dX12_rules_36 rfl (lv_at hl 2 rfl) ?_
    refine lv_bipush (v := (11 : Int32)) hx hb dX12_rules_37 (by decide) ?_
    have hPc : va_P D vwCl (wF [gX b0 (a4 0) b1 b2 b3, gO (a4 0) (a4 1) (a4 3) (a4 7) (a4 10) (a4 12) (a4 14) (a4 16) (pT u), gS cI (a4 1) (a4 2) (pS u), gWe cI (a4 3) (a4 4) (a4 5) (a4 6) (pW u), gK cI (a4 7) (a4 8) (a4 9) (pK u), gB cL (a4 10) (a4 11) (pB u), gP cI (a4 12) (a4 13) (pP u), gA cI (a4 14) (a4 15) (pA u), gC (a4 16) (pC u)]) s.heap := hP.sub [0, 1, 2, 3, 4, 5, 6, 7, 8, 9, 10, 11, 12, 13, 14, 15, 16, 17] rfl
    refine c_Ri (va_runV (As := [.int (11 : Int32)]) (rest := [.int (F10_starts u)]) ⟨hx, hb, hml, hown, hts⟩ (m10_minutesWith l D cI cL cP b0 b1 b2 b3 a4 u (11 : Int32) s.heap) (cwV 1 hts gX12_rules_X10_minutesWith rfl rfl rfl (by decide +kernel) ⟨Nat.le_of_ble_eq_true rfl, Nat.le_of_ble_eq_true rfl⟩) (preR_V (q := (RX10, TX10, 4)) (q0 := 0) hQ hPc rfl rfl) rfl rfl hl.1 rfl (lv_room (Nat.le_of_ble_eq_true rfl)) dX12_rules_39 ⟨Nat.le_of_ble_eq_true rfl, Nat.le_of_ble_eq_true rfl⟩) hS (fun locs hS => ?_)
    refine lv_icmp_ne (tgt := 75) hx hb dX12_rules_42 (by decide) (fun c4 => ?_) (fun c4 => ?_)
    · have c4 : ¬ ((F10_starts u) = (F10_minutesWith u (11 : Int32))) := c4
      refine lv_iconst (v := (0 : Int32)) hx hb dX12_rules_75 (by decide) ?_
      exact W.zret (v := (0 : Int32)) (ty := .boolean) hx hb hr rfl (fun t ht hW => ⟨⟨(0 : Int32), (), rfl, ((congrArg bI (show F12_rules u = false from Eq.trans (congrArg (K12_rules_1 u) hz2.symm) (Eq.trans (if_pos c3) (Eq.trans (if_neg c4) (rfl))))).symm), ht⟩, hS.F ht⟩) hS.2.2 dX12_rules_76
    · have c4 : (F10_starts u) = (F10_minutesWith u (11 : Int32)) := c4
      refine lv_aload_n hx hb dX12_rules_45 rfl (lv_at hl 2 rfl) ?_
      have hPc : va_P D vwCl (wF [gX b0 (a4 0) b1 b2 b3, gO (a4 0) (a4 1) (a4 3) (a4 7) (a4 10) (a4 12) (a4 14) (a4 16) (pT u), gS cI (a4 1) (a4 2) (pS u), gWe cI (a4 3) (a4 4) (a4 5) (a4 6) (pW u), gK cI (a4 7) (a4 8) (a4 9) (pK u), gB cL (a4 10) (a4 11) (pB u), gP cI (a4 12) (a4 13) (pP u), gA cI (a4 14) (a4 15) (pA u), gC (a4 16) (pC u)]) s.heap := hP.sub [0, 1, 2, 3, 4, 5, 6, 7, 8, 9, 10, 11, 12, 13, 14, 15, 16, 17] rfl
      refine c_Ri (va_runV (As := []) (rest := []) ⟨hx, hb, hml, hown, hts⟩ (m10_defrosts l D cI cL cP b0 b1 b2 b3 a4 u s.heap) (cwV 0 hts gX12_rules_X10_defrosts rfl rfl rfl (by decide +kernel) ⟨Nat.le_of_ble_eq_true rfl, Nat.le_of_ble_eq_true rfl⟩) (preR_V (q := (RX10, TX10, 4)) (q0 := 0) hQ hPc rfl rfl) rfl rfl hl.1 rfl (lv_room (Nat.le_of_ble_eq_true rfl)) dX12_rules_46 ⟨Nat.le_of_ble_eq_true rfl, Nat.le_of_ble_eq_true rfl⟩) hS (fun locs hS => ?_)
      refine lv_aload_n hx hb dX12_rules_49 rfl (lv_at hl 2 rfl) ?_
      refine lv_iconst (v := (4 : Int32)) hx hb dX12_rules_50 (by decide) ?_
      have hPc : va_P D vwCl (wF [gX b0 (a4 0) b1 b2 b3, gO (a4 0) (a4 1) (a4 3) (a4 7) (a4 10) (a4 12) (a4 14) (a4 16) (pT u), gS cI (a4 1) (a4 2) (pS u), gWe cI (a4 3) (a4 4) (a4 5) (a4 6) (pW u), gK cI (a4 7) (a4 8) (a4 9) (pK u), gB cL (a4 10) (a4 11) (pB u), gP cI (a4 12) (a4 13) (pP u), gA cI (a4 14) (a4 15) (pA u), gC (a4 16) (pC u)]) s.heap := hP.sub [0, 1, 2, 3, 4, 5, 6, 7, 8, 9, 10, 11, 12, 13, 14, 15, 16, 17] rfl
      refine c_Ri (va_runV (As := [.int (4 : Int32)]) (rest := [.int (F10_defrosts u)]) ⟨hx, hb, hml, hown, hts⟩ (m10_minutesWith l D cI cL cP b0 b1 b2 b3 a4 u (4 : Int32) s.heap) (cwV 1 hts gX12_rules_X10_minutesWith rfl rfl rfl (by decide +kernel) ⟨Nat.le_of_ble_eq_true rfl, Nat.le_of_ble_eq_true rfl⟩) (preR_V (q := (RX10, TX10, 4)) (q0 := 0) hQ hPc rfl rfl) rfl rfl hl.1 rfl (lv_room (Nat.le_of_ble_eq_true rfl)) dX12_rules_51 ⟨Nat.le_of_ble_eq_true rfl, Nat.le_of_ble_eq_true rfl⟩) hS (fun locs hS => ?_)
      refine lv_icmp_ne (tgt := 75) hx hb dX12_rules_54 (by decide) (fun c5 => ?_) (fun c5 => ?_)
      · have c5 : ¬ ((F10_defrosts u) = (F10_minutesWith u (4 : Int32))) := c5
        refine lv_iconst (v := (0 : Int32)) hx hb dX12_rules_75 (by decide) ?_
        exact W.zret (v := (0 : Int32)) (ty := .boolean) hx hb hr rfl (fun t ht hW => ⟨⟨(0 : Int32), (), rfl, ((congrArg bI (show F12_rules u = false from Eq.trans (congrArg (K12_rules_1 u) hz2.symm) (Eq.trans (if_pos c3) (Eq.trans (if_pos c4) (Eq.trans (if_neg c5) (rfl)))))).symm), ht⟩, hS.F ht⟩) hS.2.2 dX12_rules_76
      · have c5 : (F10_defrosts u) = (F10_minutesWith u (4 : Int32)) := c5
        refine lv_aload_n hx hb dX12_rules_57 rfl (lv_at hl 2 rfl) ?_
        have hPc : va_P D vwCl (wF [gX b0 (a4 0) b1 b2 b3, gO (a4 0) (a4 1) (a4 3) (a4 7) (a4 10) (a4 12) (a4 14) (a4 16) (pT u), gS cI (a4 1) (a4 2) (pS u), gWe cI (a4 3) (a4 4) (a4 5) (a4 6) (pW u), gK cI (a4 7) (a4 8) (a4 9) (pK u), gB cL (a4 10) (a4 11) (pB u), gP cI (a4 12) (a4 13) (pP u), gA cI (a4 14) (a4 15) (pA u), gC (a4 16) (pC u)]) s.heap := hP.sub [0, 1, 2, 3, 4, 5, 6, 7, 8, 9, 10, 11, 12, 13, 14, 15, 16, 17] rfl
        refine c_Ri (va_runV (As := []) (rest := []) ⟨hx, hb, hml, hown, hts⟩ (m10_startsLastHour l D cI cL cP b0 b1 b2 b3 a4 u s.heap) (cwV 0 hts gX12_rules_X10_startsLastHour rfl rfl rfl (by decide +kernel) ⟨Nat.le_of_ble_eq_true rfl, Nat.le_of_ble_eq_true rfl⟩) (preR_V (q := (RX10, TX10, 4)) (q0 := 0) hQ hPc rfl rfl) rfl rfl hl.1 rfl (lv_room (Nat.le_of_ble_eq_true rfl)) dX12_rules_58 ⟨Nat.le_of_ble_eq_true rfl, Nat.le_of_ble_eq_true rfl⟩) hS (fun locs hS => ?_)
        refine lv_aload_n hx hb dX12_rules_61 rfl (lv_at hl 2 rfl) ?_
        have hPc : va_P D vwCl (wF [gX b0 (a4 0) b1 b2 b3, gO (a4 0) (a4 1) (a4 3) (a4 7) (a4 10) (a4 12) (a4 14) (a4 16) (pT u), gS cI (a4 1) (a4 2) (pS u), gWe cI (a4 3) (a4 4) (a4 5) (a4 6) (pW u), gK cI (a4 7) (a4 8) (a4 9) (pK u), gB cL (a4 10) (a4 11) (pB u), gP cI (a4 12) (a4 13) (pP u), gA cI (a4 14) (a4 15) (pA u), gC (a4 16) (pC u)]) s.heap := hP.sub [0, 1, 2, 3, 4, 5, 6, 7, 8, 9, 10, 11, 12, 13, 14, 15, 16, 17] rfl
        refine c_Ri (va_runV (As := []) (rest := [.int (F10_startsLastHour u)]) ⟨hx, hb, hml, hown, hts⟩ (m10_starts l D cI cL cP b0 b1 b2 b3 a4 u s.heap) (cwV 0 hts gX12_rules_X10_starts rfl rfl rfl (by decide +kernel) ⟨Nat.le_of_ble_eq_true rfl, Nat.le_of_ble_eq_true rfl⟩) (preR_V (q := (RX10, TX10, 4)) (q0 := 0) hQ hPc rfl rfl) rfl rfl hl.1 rfl (lv_room (Nat.le_of_ble_eq_true rfl)) dX12_rules_62 ⟨Nat.le_of_ble_eq_true rfl, Nat.le_of_ble_eq_true rfl⟩) hS (fun locs hS => ?_)
        refine lv_icmp_gt (tgt := 75) hx hb dX12_rules_65 (by decide) (fun c6 => ?_) (fun c6 => ?_)
        · have c6 : (F10_starts u) < (F10_startsLastHour u) := c6
          refine lv_iconst (v := (0 : Int32)) hx hb dX12_rules_75 (by decide) ?_
          exact W.zret (v := (0 : Int32)) (ty := .boolean) hx hb hr rfl (fun t ht hW => ⟨⟨(0 : Int32), (), rfl, ((congrArg bI (show F12_rules u = false from Eq.trans (congrArg (K12_rules_1 u) hz2.symm) (Eq.trans (if_pos c3) (Eq.trans (if_pos c4) (Eq.trans (if_pos c5) (Eq.trans (if_pos c6) (rfl))))))).symm), ht⟩, hS.F ht⟩) hS.2.2 dX12_rules_76
        · have c6 : ¬ ((F10_starts u) < (F10_startsLastHour u)) := c6
          refine lv_aload_n hx hb dX12_rules_68 rfl (lv_at hl 2 rfl) ?_
          have hPc : va_P D vwCl (wF [gX b0 (a4 0) b1 b2 b3, gO (a4 0) (a4 1) (a4 3) (a4 7) (a4 10) (a4 12) (a4 14) (a4 16) (pT u), gS cI (a4 1) (a4 2) (pS u), gWe cI (a4 3) (a4 4) (a4 5) (a4 6) (pW u), gK cI (a4 7) (a4 8) (a4 9) (pK u), gB cL (a4 10) (a4 11) (pB u), gP cI (a4 12) (a4 13) (pP u), gA cI (a4 14) (a4 15) (pA u), gC (a4 16) (pC u)]) s.heap := hP.sub [0, 1, 2, 3, 4, 5, 6, 7, 8, 9, 10, 11, 12, 13, 14, 15, 16, 17] rfl
          refine c_Ri (va_runV (As := []) (rest := []) ⟨hx, hb, hml, hown, hts⟩ (m10_startsLastHour l D cI cL cP b0 b1 b2 b3 a4 u s.heap) (cwV 0 hts gX12_rules_X10_startsLastHour rfl rfl rfl (by decide +kernel) ⟨Nat.le_of_ble_eq_true rfl, Nat.le_of_ble_eq_true rfl⟩) (preR_V (q := (RX10, TX10, 4)) (q0 := 0) hQ hPc rfl rfl) rfl rfl hl.1 rfl (lv_room (Nat.le_of_ble_eq_true rfl)) dX12_rules_69 ⟨Nat.le_of_ble_eq_true rfl, Nat.le_of_ble_eq_true rfl⟩) hS (fun locs hS => ?_)
          refine lv_if_ge (tgt := 77) hx hb dX12_rules_72 (by decide) (fun c7 => ?_) (fun c7 => ?_)
          · have c7 : (0 : Int32) ≤ (F10_startsLastHour u) := c7
            have tail222 : ∀ (hT222 : T12_rules_222 u z2 = F12_rules u), ∀ (locs : List Loc) (_ : va_S nF s.heap s.heap locs) (ls : Array Slot) (_ : lv_has ls 5 [(0, .ref b0)]), W p l e (headSpec wsX12_rules ({ frames := 4, cells := 0, slots := 0, locals := 95 })).room s m #[.ref b0] below meth c s.heap locs 0 0 (MQ below (va_Qi (fun (r : Int32) (_ : Unit) => r = bI (F12_rules u)) (qE s.heap) nF) #[.ref b0] s 0 0 nF) (F0 m 222 ls []) := by
              intro   hT222 locs hS ls hl
              refine lv_iconst (v := (0 : Int32)) hx hb dX12_rules_222 (by decide) ?_
              refine lv_istore_n (lv' := [(3, .int (0 : Int32)), (0, .ref b0)]) hx hb dX12_rules_223 rfl hl (by decide) rfl (fun ls hl => ?_)
              have loop224 : ∀ (fu : Nat) (i : Nat) (hi : i ≤ 24) (hm : 24 - i < fu) (hF224 : L12_rules_224 u z2 fu i = F12_rules u), ∀ (locs : List Loc) (_ : va_S nF s.heap s.heap locs) (ls : Array Slot) (_ : lv_has ls 5 [(3, .int (nI i)), (0, .ref b0)]), W p l e (headSpec wsX12_rules ({ frames := 4, cells := 0, slots := 0, locals := 95 })).room s m #[.ref b0] below meth c s.heap locs 0 0 (MQ below (va_Qi (fun (r : Int32) (_ : Unit) => r = bI (F12_rules u)) (qE s.heap) nF) #[.ref b0] s 0 0 nF) (F0 m 224 ls []) := by
                intro fu
                induction fu with
                | zero => intro i hi hm; exact absurd hm (by omega)
                | succ fu ih =>
                  intro i hi hm hF224 locs hS ls hl
                  refine lv_iload_n hx hb dX12_rules_224 rfl (lv_at hl 0 rfl) ?_
                  refine lv_bipush (v := (24 : Int32)) hx hb dX12_rules_225 (by decide) ?_
                  refine lv_icmp_ge (tgt := 316) hx hb dX12_rules_227 (by decide) (fun c8 => ?_) (fun c8 => ?_)
                  · have c8 : 24 ≤ i := (nI_leI (a := 24) (b := i) (by omega) (by omega)).mp c8
                    refine lv_aload_n hx hb dX12_rules_316 rfl (lv_at hl 1 rfl) ?_
                    have hPc : va_P D vwCl (wF [gX b0 (a4 0) b1 b2 b3, gO (a4 0) (a4 1) (a4 3) (a4 7) (a4 10) (a4 12) (a4 14) (a4 16) (pT u), gS cI (a4 1) (a4 2) (pS u), gWe cI (a4 3) (a4 4) (a4 5) (a4 6) (pW u), gK cI (a4 7) (a4 8) (a4 9) (pK u), gB cL (a4 10) (a4 11) (pB u), gP cI (a4 12) (a4 13) (pP u), gA cI (a4 14) (a4 15) (pA u), gC (a4 16) (pC u)]) s.heap := hP.sub [0, 1, 2, 3, 4, 5, 6, 7, 8, 9, 10, 11, 12, 13, 14, 15, 16, 17] rfl
                    refine c_Ri (va_runV (As := []) (rest := []) ⟨hx, hb, hml, hown, hts⟩ (m10_frost l D cI cL cP b0 b1 b2 b3 a4 u s.heap) (cwV 0 hts gX12_rules_X10_frost rfl rfl rfl (by decide +kernel) ⟨Nat.le_of_ble_eq_true rfl, Nat.le_of_ble_eq_true rfl⟩) (preR_V (q := (RX10, TX10, 4)) (q0 := 0) hQ hPc rfl rfl) rfl rfl hl.1 rfl (lv_room (Nat.le_of_ble_eq_true rfl)) dX12_rules_317 ⟨Nat.le_of_ble_eq_true rfl, Nat.le_of_ble_eq_true rfl⟩) hS (fun locs hS => ?_)
                    refine lv_if_lt (tgt := 372) hx hb dX12_rules_320 (by decide) (fun c9 => ?_) (fun c9 => ?_)
                    · have c9 : (F10_frost u) < (0 : Int32) := c9
                      refine lv_iconst (v := (0 : Int32)) hx hb dX12_rules_372 (by decide) ?_
                      exact W.zret (v := (0 : Int32)) (ty := .boolean) hx hb hr rfl (fun t ht hW => ⟨⟨(0 : Int32), (), rfl, ((congrArg bI (show F12_rules u = false from hF224.symm.trans (Eq.trans (if_pos c8) (Eq.trans (if_pos c9) (rfl))))).symm), ht⟩, hS.F ht⟩) hS.2.2 dX12_rules_373
                    · have c9 : ¬ ((F10_frost u) < (0 : Int32)) := c9
                      refine lv_aload_n hx hb dX12_rules_323 rfl (lv_at hl 1 rfl) ?_
                      have hPc : va_P D vwCl (wF [gX b0 (a4 0) b1 b2 b3, gO (a4 0) (a4 1) (a4 3) (a4 7) (a4 10) (a4 12) (a4 14) (a4 16) (pT u), gS cI (a4 1) (a4 2) (pS u), gWe cI (a4 3) (a4 4) (a4 5) (a4 6) (pW u), gK cI (a4 7) (a4 8) (a4 9) (pK u), gB cL (a4 10) (a4 11) (pB u), gP cI (a4 12) (a4 13) (pP u), gA cI (a4 14) (a4 15) (pA u), gC (a4 16) (pC u)]) s.heap := hP.sub [0, 1, 2, 3, 4, 5, 6, 7, 8, 9, 10, 11, 12, 13, 14, 15, 16, 17] rfl
                      refine c_Rl (va_runV (As := []) (rest := []) ⟨hx, hb, hml, hown, hts⟩ (m10_drawn l D cI cL cP b0 b1 b2 b3 a4 u s.heap) (cwV 0 hts gX12_rules_X10_drawn rfl rfl rfl (by decide +kernel) ⟨Nat.le_of_ble_eq_true rfl, Nat.le_of_ble_eq_true rfl⟩) (preR_V (q := (RX10, TX10, 4)) (q0 := 0) hQ hPc rfl rfl) rfl rfl hl.1 rfl (lv_room (Nat.le_of_ble_eq_true rfl)) dX12_rules_324 ⟨Nat.le_of_ble_eq_true rfl, Nat.le_of_ble_eq_true rfl⟩) hS (fun locs hS => ?_)
                      refine lv_lconst (v := (0 : Int64)) hx hb dX12_rules_327 rfl ?_
                      refine w_llt (tgt := 372) hx hb dX12_rules_328 dX12_rules_329 (by decide) (fun c10 => ?_) (fun c10 => ?_)
                      · have c10 : (F10_drawn u) < (0 : Int64) := c10
                        refine lv_iconst (v := (0 : Int32)) hx hb dX12_rules_372 (by decide) ?_
                        exact W.zret (v := (0 : Int32)) (ty := .boolean) hx hb hr rfl (fun t ht hW => ⟨⟨(0 : Int32), (), rfl, ((congrArg bI (show F12_rules u = false from hF224.symm.trans (Eq.trans (if_pos c8) (Eq.trans (if_neg c9) (Eq.trans (if_pos c10) (rfl)))))).symm), ht⟩, hS.F ht⟩) hS.2.2 dX12_rules_373
                      · have c10 : ¬ ((F10_drawn u) < (0 : Int64)) := c10
                        refine lv_aload_n hx hb dX12_rules_332 rfl (lv_at hl 1 rfl) ?_
                        have hPc : va_P D vwCl (wF [gX b0 (a4 0) b1 b2 b3, gO (a4 0) (a4 1) (a4 3) (a4 7) (a4 10) (a4 12) (a4 14) (a4 16) (pT u), gS cI (a4 1) (a4 2) (pS u), gWe cI (a4 3) (a4 4) (a4 5) (a4 6) (pW u), gK cI (a4 7) (a4 8) (a4 9) (pK u), gB cL (a4 10) (a4 11) (pB u), gP cI (a4 12) (a4 13) (pP u), gA cI (a4 14) (a4 15) (pA u), gC (a4 16) (pC u)]) s.heap := hP.sub [0, 1, 2, 3, 4, 5, 6, 7, 8, 9, 10, 11, 12, 13, 14, 15, 16, 17] rfl
                        refine c_Rl (va_runV (As := []) (rest := []) ⟨hx, hb, hml, hown, hts⟩ (m10_unmet l D cI cL cP b0 b1 b2 b3 a4 u s.heap) (cwV 0 hts gX12_rules_X10_unmet rfl rfl rfl (by decide +kernel) ⟨Nat.le_of_ble_eq_true rfl, Nat.le_of_ble_eq_true rfl⟩) (preR_V (q := (RX10, TX10, 4)) (q0 := 0) hQ hPc rfl rfl) rfl rfl hl.1 rfl (lv_room (Nat.le_of_ble_eq_true rfl)) dX12_rules_333 ⟨Nat.le_of_ble_eq_true rfl, Nat.le_of_ble_eq_true rfl⟩) hS (fun locs hS => ?_)
                        refine lv_lconst (v := (0 : Int64)) hx hb dX12_rules_336 rfl ?_
                        refine w_llt (tgt := 372) hx hb dX12_rules_337 dX12_rules_338 (by decide) (fun c11 => ?_) (fun c11 => ?_)
                        · have c11 : (F10_unmet u) < (0 : Int64) := c11
                          refine lv_iconst (v := (0 : Int32)) hx hb dX12_rules_372 (by decide) ?_
                          exact W.zret (v := (0 : Int32)) (ty := .boolean) hx hb hr rfl (fun t ht hW => ⟨⟨(0 : Int32), (), rfl, ((congrArg bI (show F12_rules u = false from hF224.symm.trans (Eq.trans (if_pos c8) (Eq.trans (if_neg c9) (Eq.trans (if_neg c10) (Eq.trans (if_pos c11) (rfl))))))).symm), ht⟩, hS.F ht⟩) hS.2.2 dX12_rules_373
                        · have c11 : ¬ ((F10_unmet u) < (0 : Int64)) := c11
                          refine lv_aload_n hx hb dX12_rules_341 rfl (lv_at hl 1 rfl) ?_
                          have hPc : va_P D vwCl (wF [gX b0 (a4 0) b1 b2 b3, gO (a4 0) (a4 1) (a4 3) (a4 7) (a4 10) (a4 12) (a4 14) (a4 16) (pT u), gS cI (a4 1) (a4 2) (pS u), gWe cI (a4 3) (a4 4) (a4 5) (a4 6) (pW u), gK cI (a4 7) (a4 8) (a4 9) (pK u), gB cL (a4 10) (a4 11) (pB u), gP cI (a4 12) (a4 13) (pP u), gA cI (a4 14) (a4 15) (pA u), gC (a4 16) (pC u)]) s.heap := hP.sub [0, 1, 2, 3, 4, 5, 6, 7, 8, 9, 10, 11, 12, 13, 14, 15, 16, 17] rfl
                          refine c_Rl (va_runV (As := []) (rest := []) ⟨hx, hb, hml, hown, hts⟩ (m10_lost l D cI cL cP b0 b1 b2 b3 a4 u s.heap) (cwV 0 hts gX12_rules_X10_lost rfl rfl rfl (by decide +kernel) ⟨Nat.le_of_ble_eq_true rfl, Nat.le_of_ble_eq_true rfl⟩) (preR_V (q := (RX10, TX10, 4)) (q0 := 0) hQ hPc rfl rfl) rfl rfl hl.1 rfl (lv_room (Nat.le_of_ble_eq_true rfl)) dX12_rules_342 ⟨Nat.le_of_ble_eq_true rfl, Nat.le_of_ble_eq_true rfl⟩) hS (fun locs hS => ?_)
                          refine lv_lconst (v := (0 : Int64)) hx hb dX12_rules_345 rfl ?_
                          refine w_llt (tgt := 372) hx hb dX12_rules_346 dX12_rules_347 (by decide) (fun c12 => ?_) (fun c12 => ?_)
                          · have c12 : (F10_lost u) < (0 : Int64) := c12
                            refine lv_iconst (v := (0 : Int32)) hx hb dX12_rules_372 (by decide) ?_
                            exact W.zret (v := (0 : Int32)) (ty := .boolean) hx hb hr rfl (fun t ht hW => ⟨⟨(0 : Int32), (), rfl, ((congrArg bI (show F12_rules u = false from hF224.symm.trans (Eq.trans (if_pos c8) (Eq.trans (if_neg c9) (Eq.trans (if_neg c10) (Eq.trans (if_neg c11) (Eq.trans (if_pos c12) (rfl)))))))).symm), ht⟩, hS.F ht⟩) hS.2.2 dX12_rules_373
                          · have c12 : ¬ ((F10_lost u) < (0 : Int64)) := c12
                            refine lv_aload_n hx hb dX12_rules_350 rfl (lv_at hl 1 rfl) ?_
                            have hPc : va_P D vwCl (wF [gX b0 (a4 0) b1 b2 b3, gO (a4 0) (a4 1) (a4 3) (a4 7) (a4 10) (a4 12) (a4 14) (a4 16) (pT u), gS cI (a4 1) (a4 2) (pS u), gWe cI (a4 3) (a4 4) (a4 5) (a4 6) (pW u), gK cI (a4 7) (a4 8) (a4 9) (pK u), gB cL (a4 10) (a4 11) (pB u), gP cI (a4 12) (a4 13) (pP u), gA cI (a4 14) (a4 15) (pA u), gC (a4 16) (pC u)]) s.heap := hP.sub [0, 1, 2, 3, 4, 5, 6, 7, 8, 9, 10, 11, 12, 13, 14, 15, 16, 17] rfl
                            refine c_Rl (va_runV (As := []) (rest := []) ⟨hx, hb, hml, hown, hts⟩ (m10_cost l D cI cL cP b0 b1 b2 b3 a4 u s.heap) (cwV 0 hts gX12_rules_X10_cost rfl rfl rfl (by decide +kernel) ⟨Nat.le_of_ble_eq_true rfl, Nat.le_of_ble_eq_true rfl⟩) (preR_V (q := (RX10, TX10, 4)) (q0 := 0) hQ hPc rfl rfl) rfl rfl hl.1 rfl (lv_room (Nat.le_of_ble_eq_true rfl)) dX12_rules_351 ⟨Nat.le_of_ble_eq_true rfl, Nat.le_of_ble_eq_true rfl⟩) hS (fun locs hS => ?_)
                            refine lv_lconst (v := (0 : Int64)) hx hb dX12_rules_354 rfl ?_
                            refine w_llt (tgt := 372) hx hb dX12_rules_355 dX12_rules_356 (by decide) (fun c13 => ?_) (fun c13 => ?_)
                            · have c13 : (F10_cost u) < (0 : Int64) := c13
                              refine lv_iconst (v := (0 : Int32)) hx hb dX12_rules_372 (by decide) ?_
                              exact W.zret (v := (0 : Int32)) (ty := .boolean) hx hb hr rfl (fun t ht hW => ⟨⟨(0 : Int32), (), rfl, ((congrArg bI (show F12_rules u = false from hF224.symm.trans (Eq.trans (if_pos c8) (Eq.trans (if_neg c9) (Eq.trans (if_neg c10) (Eq.trans (if_neg c11) (Eq.trans (if_neg c12) (Eq.trans (if_pos c13) (rfl))))))))).symm), ht⟩, hS.F ht⟩) hS.2.2 dX12_rules_373
                            · have c13 : ¬ ((F10_cost u) < (0 : Int64)) := c13
                              refine lv_aload_n hx hb dX12_rules_359 rfl (lv_at hl 1 rfl) ?_
                              have hPc : va_P D vwCl (wF [gX b0 (a4 0) b1 b2 b3, gO (a4 0) (a4 1) (a4 3) (a4 7) (a4 10) (a4 12) (a4 14) (a4 16) (pT u), gS cI (a4 1) (a4 2) (pS u), gWe cI (a4 3) (a4 4) (a4 5) (a4 6) (pW u), gK cI (a4 7) (a4 8) (a4 9) (pK u), gB cL (a4 10) (a4 11) (pB u), gP cI (a4 12) (a4 13) (pP u), gA cI (a4 14) (a4 15) (pA u), gC (a4 16) (pC u)]) s.heap := hP.sub [0, 1, 2, 3, 4, 5, 6, 7, 8, 9, 10, 11, 12, 13, 14, 15, 16, 17] rfl
                              refine c_Rl (va_runV (As := []) (rest := []) ⟨hx, hb, hml, hown, hts⟩ (m10_electricity l D cI cL cP b0 b1 b2 b3 a4 u s.heap) (cwV 0 hts gX12_rules_X10_electricity rfl rfl rfl (by decide +kernel) ⟨Nat.le_of_ble_eq_true rfl, Nat.le_of_ble_eq_true rfl⟩) (preR_V (q := (RX10, TX10, 4)) (q0 := 0) hQ hPc rfl rfl) rfl rfl hl.1 rfl (lv_room (Nat.le_of_ble_eq_true rfl)) dX12_rules_360 ⟨Nat.le_of_ble_eq_true rfl, Nat.le_of_ble_eq_true rfl⟩) hS (fun locs hS => ?_)
                              refine lv_lconst (v := (0 : Int64)) hx hb dX12_rules_363 rfl ?_
                              refine w_llt (tgt := 372) hx hb dX12_rules_364 dX12_rules_365 (by decide) (fun c14 => ?_) (fun c14 => ?_)
                              · have c14 : (F10_electricity u) < (0 : Int64) := c14
                                refine lv_iconst (v := (0 : Int32)) hx hb dX12_rules_372 (by decide) ?_
                                exact W.zret (v := (0 : Int32)) (ty := .boolean) hx hb hr rfl (fun t ht hW => ⟨⟨(0 : Int32), (), rfl, ((congrArg bI (show F12_rules u = false from hF224.symm.trans (Eq.trans (if_pos c8) (Eq.trans (if_neg c9) (Eq.trans (if_neg c10) (Eq.trans (if_neg c11) (Eq.trans (if_neg c12) (Eq.trans (if_neg c13) (Eq.trans (if_pos c14) (rfl)))))))))).symm), ht⟩, hS.F ht⟩) hS.2.2 dX12_rules_373
                              · have c14 : ¬ ((F10_electricity u) < (0 : Int64)) := c14
                                refine lv_iconst (v := (1 : Int32)) hx hb dX12_rules_368 (by decide) ?_
                                refine lv_goto (tgt := 373) hx hb dX12_rules_369 (by decide) ?_
                                exact W.zret (v := (1 : Int32)) (ty := .boolean) hx hb hr rfl (fun t ht hW => ⟨⟨(1 : Int32), (), rfl, ((congrArg bI (show F12_rules u = true from hF224.symm.trans (Eq.trans (if_pos c8) (Eq.trans (if_neg c9) (Eq.trans (if_neg c10) (Eq.trans (if_neg c11) (Eq.trans (if_neg c12) (Eq.trans (if_neg c13) (Eq.trans (if_neg c14) (rfl)))))))))).symm), ht⟩, hS.F ht⟩) hS.2.2 dX12_rules_373
                  · have c8 : ¬ (24 ≤ i) := fun h9 => c8 ((nI_leI (a := 24) (b := i) (by omega) (by omega)).mpr h9)
                    refine lv_aload_n hx hb dX12_rules_230 rfl (lv_at hl 1 rfl) ?_
                    refine lv_bipush (v := (15 : Int32)) hx hb dX12_rules_231 (by decide) ?_
                    have hPc : va_P D vwCl (wF [gX b0 (a4 0) b1 b2 b3, gO (a4 0) (a4 1) (a4 3) (a4 7) (a4 10) (a4 12) (a4 14) (a4 16) (pT u), gS cI (a4 1) (a4 2) (pS u), gWe cI (a4 3) (a4 4) (a4 5) (a4 6) (pW u), gK cI (a4 7) (a4 8) (a4 9) (pK u), gB cL (a4 10) (a4 11) (pB u), gP cI (a4 12) (a4 13) (pP u), gA cI (a4 14) (a4 15) (pA u), gC (a4 16) (pC u)]) s.heap := hP.sub [0, 1, 2, 3, 4, 5, 6, 7, 8, 9, 10, 11, 12, 13, 14, 15, 16, 17] rfl
                    refine c_Ri (va_runV (As := [.int (15 : Int32)]) (rest := []) ⟨hx, hb, hml, hown, hts⟩ (m10_setting l D cI cL cP b0 b1 b2 b3 a4 u (15 : Int32) s.heap) (cwV 1 hts gX12_rules_X10_setting rfl rfl rfl (by decide +kernel) ⟨Nat.le_of_ble_eq_true rfl, Nat.le_of_ble_eq_true rfl⟩) (preR_V (q := (RX10, TX10, 4)) (q0 := 0) hQ hPc rfl rfl) rfl rfl hl.1 rfl (lv_room (Nat.le_of_ble_eq_true rfl)) dX12_rules_233 ⟨Nat.le_of_ble_eq_true rfl, Nat.le_of_ble_eq_true rfl⟩) hS (fun locs hS => ?_)
                    refine lv_aload_n hx hb dX12_rules_236 rfl (lv_at hl 1 rfl) ?_
                    refine lv_iload_n hx hb dX12_rules_237 rfl (lv_at hl 0 rfl) ?_
                    have hPc : va_P D vwCl (wF [gX b0 (a4 0) b1 b2 b3, gO (a4 0) (a4 1) (a4 3) (a4 7) (a4 10) (a4 12) (a4 14) (a4 16) (pT u), gS cI (a4 1) (a4 2) (pS u), gWe cI (a4 3) (a4 4) (a4 5) (a4 6) (pW u), gK cI (a4 7) (a4 8) (a4 9) (pK u), gB cL (a4 10) (a4 11) (pB u), gP cI (a4 12) (a4 13) (pP u), gA cI (a4 14) (a4 15) (pA u), gC (a4 16) (pC u)]) s.heap := hP.sub [0, 1, 2, 3, 4, 5, 6, 7, 8, 9, 10, 11, 12, 13, 14, 15, 16, 17] rfl
                    refine c_Ri (va_runV (As := [.int (nI i)]) (rest := [.int (F10_setting u (15 : Int32))]) ⟨hx, hb, hml, hown, hts⟩ (m10_outdoor l D cI cL cP b0 b1 b2 b3 a4 u (nI i) s.heap) (cwV 1 hts gX12_rules_X10_outdoor rfl rfl rfl (by decide +kernel) ⟨Nat.le_of_ble_eq_true rfl, Nat.le_of_ble_eq_true rfl⟩) (preR_V (q := (RX10, TX10, 4)) (q0 := 0) hQ hPc rfl rfl) rfl rfl hl.1 rfl (lv_room (Nat.le_of_ble_eq_true rfl)) dX12_rules_238 ⟨Nat.le_of_ble_eq_true rfl, Nat.le_of_ble_eq_true rfl⟩) hS (fun locs hS => ?_)
                    refine lv_isub hx hb dX12_rules_241 ?_
                    refine lv_aload_n hx hb dX12_rules_242 rfl (lv_at hl 1 rfl) ?_
                    refine lv_bipush (v := (16 : Int32)) hx hb dX12_rules_243 (by decide) ?_
                    have hPc : va_P D vwCl (wF [gX b0 (a4 0) b1 b2 b3, gO (a4 0) (a4 1) (a4 3) (a4 7) (a4 10) (a4 12) (a4 14) (a4 16) (pT u), gS cI (a4 1) (a4 2) (pS u), gWe cI (a4 3) (a4 4) (a4 5) (a4 6) (pW u), gK cI (a4 7) (a4 8) (a4 9) (pK u), gB cL (a4 10) (a4 11) (pB u), gP cI (a4 12) (a4 13) (pP u), gA cI (a4 14) (a4 15) (pA u), gC (a4 16) (pC u)]) s.heap := hP.sub [0, 1, 2, 3, 4, 5, 6, 7, 8, 9, 10, 11, 12, 13, 14, 15, 16, 17] rfl
                    refine c_Ri (va_runV (As := [.int (16 : Int32)]) (rest := [.int ((F10_setting u (15 : Int32)) - (F10_outdoor u (nI i)))]) ⟨hx, hb, hml, hown, hts⟩ (m10_setting l D cI cL cP b0 b1 b2 b3 a4 u (16 : Int32) s.heap) (cwV 1 hts gX12_rules_X10_setting rfl rfl rfl (by decide +kernel) ⟨Nat.le_of_ble_eq_true rfl, Nat.le_of_ble_eq_true rfl⟩) (preR_V (q := (RX10, TX10, 4)) (q0 := 0) hQ hPc rfl rfl) rfl rfl hl.1 rfl (lv_room (Nat.le_of_ble_eq_true rfl)) dX12_rules_245 ⟨Nat.le_of_ble_eq_true rfl, Nat.le_of_ble_eq_true rfl⟩) hS (fun locs hS => ?_)
                    refine lv_imul hx hb dX12_rules_248 ?_
                    refine lv_istore (lv' := [(4, .int (((F10_setting u (15 : Int32)) - (F10_outdoor u (nI i))) * (F10_setting u (16 : Int32)))), (3, .int (nI i)), (0, .ref b0)]) hx hb dX12_rules_249 hl (by decide) rfl (fun ls hl => ?_)
                    refine lv_aload_n hx hb dX12_rules_251 rfl (lv_at hl 2 rfl) ?_
                    refine lv_iload_n hx hb dX12_rules_252 rfl (lv_at hl 1 rfl) ?_
                    have hPc : va_P D vwCl (wF [gX b0 (a4 0) b1 b2 b3, gO (a4 0) (a4 1) (a4 3) (a4 7) (a4 10) (a4 12) (a4 14) (a4 16) (pT u), gS cI (a4 1) (a4 2) (pS u), gWe cI (a4 3) (a4 4) (a4 5) (a4 6) (pW u), gK cI (a4 7) (a4 8) (a4 9) (pK u), gB cL (a4 10) (a4 11) (pB u), gP cI (a4 12) (a4 13) (pP u), gA cI (a4 14) (a4 15) (pA u), gC (a4 16) (pC u)]) s.heap := hP.sub [0, 1, 2, 3, 4, 5, 6, 7, 8, 9, 10, 11, 12, 13, 14, 15, 16, 17] rfl
                    refine c_Ri (va_runV (As := [.int (nI i)]) (rest := []) ⟨hx, hb, hml, hown, hts⟩ (m10_target l D cI cL cP b0 b1 b2 b3 a4 u (nI i) s.heap) (cwV 1 hts gX12_rules_X10_target rfl rfl rfl (by decide +kernel) ⟨Nat.le_of_ble_eq_true rfl, Nat.le_of_ble_eq_true rfl⟩) (preR_V (q := (RX10, TX10, 4)) (q0 := 0) hQ hPc rfl rfl) rfl rfl hl.1 rfl (lv_room (Nat.le_of_ble_eq_true rfl)) dX12_rules_253 ⟨Nat.le_of_ble_eq_true rfl, Nat.le_of_ble_eq_true rfl⟩) hS (fun locs hS => ?_)
                    refine lv_aload_n hx hb dX12_rules_256 rfl (lv_at hl 2 rfl) ?_
                    refine lv_aload_n hx hb dX12_rules_257 rfl (lv_at hl 2 rfl) ?_
                    refine lv_iload_n hx hb dX12_rules_258 rfl (lv_at hl 1 rfl) ?_
                    have hPc : va_P D vwCl (wF [gX b0 (a4 0) b1 b2 b3, gO (a4 0) (a4 1) (a4 3) (a4 7) (a4 10) (a4 12) (a4 14) (a4 16) (pT u), gS cI (a4 1) (a4 2) (pS u), gWe cI (a4 3) (a4 4) (a4 5) (a4 6) (pW u), gK cI (a4 7) (a4 8) (a4 9) (pK u), gB cL (a4 10) (a4 11) (pB u), gP cI (a4 12) (a4 13) (pP u), gA cI (a4 14) (a4 15) (pA u), gC (a4 16) (pC u)]) s.heap := hP.sub [0, 1, 2, 3, 4, 5, 6, 7, 8, 9, 10, 11, 12, 13, 14, 15, 16, 17] rfl
                    refine c_Ri (va_runV (As := [.int (nI i)]) (rest := [.ref b0, .int (F10_target u (nI i))]) ⟨hx, hb, hml, hown, hts⟩ (m10_outdoor l D cI cL cP b0 b1 b2 b3 a4 u (nI i) s.heap) (cwV 1 hts gX12_rules_X10_outdoor rfl rfl rfl (by decide +kernel) ⟨Nat.le_of_ble_eq_true rfl, Nat.le_of_ble_eq_true rfl⟩) (preR_V (q := (RX10, TX10, 4)) (q0 := 0) hQ hPc rfl rfl) rfl rfl hl.1 rfl (lv_room (Nat.le_of_ble_eq_true rfl)) dX12_rules_259 ⟨Nat.le_of_ble_eq_true rfl, Nat.le_of_ble_eq_true rfl⟩) hS (fun locs hS => ?_)
                    have hPc : va_P D vwCl (wF [gX b0 (a4 0) b1 b2 b3, gO (a4 0) (a4 1) (a4 3) (a4 7) (a4 10) (a4 12) (a4 14) (a4 16) (pT u), gS cI (a4 1) (a4 2) (pS u), gWe cI (a4 3) (a4 4) (a4 5) (a4 6) (pW u), gK cI (a4 7) (a4 8) (a4 9) (pK u), gB cL (a4 10) (a4 11) (pB u), gP cI (a4 12) (a4 13) (pP u), gA cI (a4 14) (a4 15) (pA u), gC (a4 16) (pC u)]) s.heap := hP.sub [0, 1, 2, 3, 4, 5, 6, 7, 8, 9, 10, 11, 12, 13, 14, 15, 16, 17] rfl
                    refine c_Ri (va_runV (As := [.int (F10_outdoor u (nI i))]) (rest := [.int (F10_target u (nI i))]) ⟨hx, hb, hml, hown, hts⟩ (m10_supply l D cI cL cP b0 b1 b2 b3 a4 u (F10_outdoor u (nI i)) s.heap) (cwV 1 hts gX12_rules_X10_supply rfl rfl rfl (by decide +kernel) ⟨Nat.le_of_ble_eq_true rfl, Nat.le_of_ble_eq_true rfl⟩) (preR_V (q := (RX10, TX10, 4)) (q0 := 0) hQ hPc rfl rfl) rfl rfl hl.1 rfl (lv_room (Nat.le_of_ble_eq_true rfl)) dX12_rules_262 ⟨Nat.le_of_ble_eq_true rfl, Nat.le_of_ble_eq_true rfl⟩) hS (fun locs hS => ?_)
                    refine lv_aload_n hx hb dX12_rules_265 rfl (lv_at hl 2 rfl) ?_
                    refine lv_iload_n hx hb dX12_rules_266 rfl (lv_at hl 1 rfl) ?_
                    have hPc : va_P D vwCl (wF [gX b0 (a4 0) b1 b2 b3, gO (a4 0) (a4 1) (a4 3) (a4 7) (a4 10) (a4 12) (a4 14) (a4 16) (pT u), gS cI (a4 1) (a4 2) (pS u), gWe cI (a4 3) (a4 4) (a4 5) (a4 6) (pW u), gK cI (a4 7) (a4 8) (a4 9) (pK u), gB cL (a4 10) (a4 11) (pB u), gP cI (a4 12) (a4 13) (pP u), gA cI (a4 14) (a4 15) (pA u), gC (a4 16) (pC u)]) s.heap := hP.sub [0, 1, 2, 3, 4, 5, 6, 7, 8, 9, 10, 11, 12, 13, 14, 15, 16, 17] rfl
                    refine c_Ri (va_runV (As := [.int (nI i)]) (rest := [.int (F10_supply u (F10_outdoor u (nI i))), .int (F10_target u (nI i))]) ⟨hx, hb, hml, hown, hts⟩ (m10_tariff l D cI cL cP b0 b1 b2 b3 a4 u (nI i) s.heap) (cwV 1 hts gX12_rules_X10_tariff rfl rfl rfl (by decide +kernel) ⟨Nat.le_of_ble_eq_true rfl, Nat.le_of_ble_eq_true rfl⟩) (preR_V (q := (RX10, TX10, 4)) (q0 := 0) hQ hPc rfl rfl) rfl rfl hl.1 rfl (lv_room (Nat.le_of_ble_eq_true rfl)) dX12_rules_267 ⟨Nat.le_of_ble_eq_true rfl, Nat.le_of_ble_eq_true rfl⟩) hS (fun locs hS => ?_)
                    refine w_diaIS hS (rest := [.int (F10_supply u (F10_outdoor u (nI i))), .int (F10_target u (nI i))]) (K := (F10_tariff u (nI i)) = (0 : Int32)) 282 (F10_setting u (5 : Int32)) (0 : Int32) (fun kt kf => ?_) (fun locs hS => ?_)
                    · refine lv_if_ne (tgt := 281) hx hb dX12_rules_270 (by decide) (fun c15 => ?_) (fun c15 => ?_)
                      · have c15 : ¬ ((F10_tariff u (nI i)) = (0 : Int32)) := c15
                        refine lv_iconst (v := (0 : Int32)) hx hb dX12_rules_281 (by decide) ?_
                        exact kf c15 _ hS
                      · have c15 : (F10_tariff u (nI i)) = (0 : Int32) := c15
                        refine lv_aload_n hx hb dX12_rules_273 rfl (lv_at hl 2 rfl) ?_
                        refine lv_iconst (v := (5 : Int32)) hx hb dX12_rules_274 (by decide) ?_
                        have hPc : va_P D vwCl (wF [gX b0 (a4 0) b1 b2 b3, gO (a4 0) (a4 1) (a4 3) (a4 7) (a4 10) (a4 12) (a4 14) (a4 16) (pT u), gS cI (a4 1) (a4 2) (pS u), gWe cI (a4 3) (a4 4) (a4 5) (a4 6) (pW u), gK cI (a4 7) (a4 8) (a4 9) (pK u), gB cL (a4 10) (a4 11) (pB u), gP cI (a4 12) (a4 13) (pP u), gA cI (a4 14) (a4 15) (pA u), gC (a4 16) (pC u)]) s.heap := hP.sub [0, 1, 2, 3, 4, 5, 6, 7, 8, 9, 10, 11, 12, 13, 14, 15, 16, 17] rfl
                        refine c_Ri (va_runV (As := [.int (5 : Int32)]) (rest := [.int (F10_supply u (F10_outdoor u (nI i))), .int (F10_target u (nI i))]) ⟨hx, hb, hml, hown, hts⟩ (m10_setting l D cI cL cP b0 b1 b2 b3 a4 u (5 : Int32) s.heap) (cwV 1 hts gX12_rules_X10_setting rfl rfl rfl (by decide +kernel) ⟨Nat.le_of_ble_eq_true rfl, Nat.le_of_ble_eq_true rfl⟩) (preR_V (q := (RX10, TX10, 4)) (q0 := 0) hQ hPc rfl rfl) rfl rfl hl.1 rfl (lv_room (Nat.le_of_ble_eq_true rfl)) dX12_rules_275 ⟨Nat.le_of_ble_eq_true rfl, Nat.le_of_ble_eq_true rfl⟩) hS (fun locs hS => ?_)
                        refine lv_goto (tgt := 282) hx hb dX12_rules_278 (by decide) ?_
                        exact kt c15 _ hS
                    refine lv_iadd hx hb dX12_rules_282 ?_
                    refine lv_icmp_ne (tgt := 308) hx hb dX12_rules_283 (by decide) (fun c16 => ?_) (fun c16 => ?_)
                    · have c16 : ¬ ((F10_target u (nI i)) = ((F10_supply u (F10_outdoor u (nI i))) + (if (F10_tariff u (nI i)) = (0 : Int32) then (F10_setting u (5 : Int32)) else (0 : Int32)))) := c16
                      refine lv_iconst (v := (0 : Int32)) hx hb dX12_rules_308 (by decide) ?_
                      exact W.zret (v := (0 : Int32)) (ty := .boolean) hx hb hr rfl (fun t ht hW => ⟨⟨(0 : Int32), (), rfl, ((congrArg bI (show F12_rules u = false from hF224.symm.trans (Eq.trans (if_neg c8) (Eq.trans (if_neg c16) (rfl))))).symm), ht⟩, hS.F ht⟩) hS.2.2 dX12_rules_309
                    · have c16 : (F10_target u (nI i)) = ((F10_supply u (F10_outdoor u (nI i))) + (if (F10_tariff u (nI i)) = (0 : Int32) then (F10_setting u (5 : Int32)) else (0 : Int32))) := c16
                      refine lv_aload_n hx hb dX12_rules_286 rfl (lv_at hl 2 rfl) ?_
                      refine lv_iload_n hx hb dX12_rules_287 rfl (lv_at hl 1 rfl) ?_
                      have hPc : va_P D vwCl (wF [gX b0 (a4 0) b1 b2 b3, gO (a4 0) (a4 1) (a4 3) (a4 7) (a4 10) (a4 12) (a4 14) (a4 16) (pT u), gS cI (a4 1) (a4 2) (pS u), gWe cI (a4 3) (a4 4) (a4 5) (a4 6) (pW u), gK cI (a4 7) (a4 8) (a4 9) (pK u), gB cL (a4 10) (a4 11) (pB u), gP cI (a4 12) (a4 13) (pP u), gA cI (a4 14) (a4 15) (pA u), gC (a4 16) (pC u)]) s.heap := hP.sub [0, 1, 2, 3, 4, 5, 6, 7, 8, 9, 10, 11, 12, 13, 14, 15, 16, 17] rfl
                      refine c_Ri (va_runV (As := [.int (nI i)]) (rest := []) ⟨hx, hb, hml, hown, hts⟩ (m10_demand l D cI cL cP b0 b1 b2 b3 a4 u (nI i) s.heap) (cwV 1 hts gX12_rules_X10_demand rfl rfl rfl (by decide +kernel) ⟨Nat.le_of_ble_eq_true rfl, Nat.le_of_ble_eq_true rfl⟩) (preR_V (q := (RX10, TX10, 4)) (q0 := 0) hQ hPc rfl rfl) rfl rfl hl.1 rfl (lv_room (Nat.le_of_ble_eq_true rfl)) dX12_rules_288 ⟨Nat.le_of_ble_eq_true rfl, Nat.le_of_ble_eq_true rfl⟩) hS (fun locs hS => ?_)
                      refine lv_iload hx hb dX12_rules_291 (lv_at hl 0 rfl) ?_
                      refine w_diaI (rest := [.int (F10_demand u (nI i))]) (K := (0 : Int32) ≤ (((F10_setting u (15 : Int32)) - (F10_outdoor u (nI i))) * (F10_setting u (16 : Int32)))) 305 ((((F10_setting u (15 : Int32)) - (F10_outdoor u (nI i))) * (F10_setting u (16 : Int32))) / (10 : Int32)) (0 : Int32) (fun kt kf => ?_) ?_
                      · refine lv_if_ge (tgt := 300) hx hb dX12_rules_293 (by decide) (fun c17 => ?_) (fun c17 => ?_)
                        · have c17 : (0 : Int32) ≤ (((F10_setting u (15 : Int32)) - (F10_outdoor u (nI i))) * (F10_setting u (16 : Int32))) := c17
                          refine lv_iload hx hb dX12_rules_300 (lv_at hl 0 rfl) ?_
                          refine lv_bipush (v := (10 : Int32)) hx hb dX12_rules_302 (by decide) ?_
                          refine lv_idiv hx hb dX12_rules_304 (by decide) ?_
                          exact kt c17
                        · have c17 : ¬ ((0 : Int32) ≤ (((F10_setting u (15 : Int32)) - (F10_outdoor u (nI i))) * (F10_setting u (16 : Int32)))) := c17
                          refine lv_iconst (v := (0 : Int32)) hx hb dX12_rules_296 (by decide) ?_
                          refine lv_goto (tgt := 305) hx hb dX12_rules_297 (by decide) ?_
                          exact kf c17
                      refine lv_icmp_eq (tgt := 310) hx hb dX12_rules_305 (by decide) (fun c18 => ?_) (fun c18 => ?_)
                      · have c18 : (F10_demand u (nI i)) = (if (0 : Int32) ≤ (((F10_setting u (15 : Int32)) - (F10_outdoor u (nI i))) * (F10_setting u (16 : Int32))) then ((((F10_setting u (15 : Int32)) - (F10_outdoor u (nI i))) * (F10_setting u (16 : Int32))) / (10 : Int32)) else (0 : Int32)) := c18
                        refine lv_iinc (v := (nI (i + 1))) (lv' := [(3, .int (nI (i + 1))), (4, .int (((F10_setting u (15 : Int32)) - (F10_outdoor u (nI i))) * (F10_setting u (16 : Int32)))), (0, .ref b0)]) hx hb dX12_rules_310 hl (k := 1) rfl (nI_add i 1) (by decide) rfl (fun ls hl => ?_)
                        refine lv_goto (tgt := 224) hx hb dX12_rules_313 (by decide) ?_
                        exact ih (i + 1) (by omega) (by omega) (((Eq.trans (if_neg c8) (Eq.trans (if_pos c16) (Eq.trans (if_pos c18) (rfl)))).symm.trans hF224)) locs hS ls (lv_sub hl [0, 2] rfl)
                      · have c18 : ¬ ((F10_demand u (nI i)) = (if (0 : Int32) ≤ (((F10_setting u (15 : Int32)) - (F10_outdoor u (nI i))) * (F10_setting u (16 : Int32))) then ((((F10_setting u (15 : Int32)) - (F10_outdoor u (nI i))) * (F10_setting u (16 : Int32))) / (10 : Int32)) else (0 : Int32))) := c18
                        refine lv_iconst (v := (0 : Int32)) hx hb dX12_rules_308 (by decide) ?_
                        exact W.zret (v := (0 : Int32)) (ty := .boolean) hx hb hr rfl (fun t ht hW => ⟨⟨(0 : Int32), (), rfl, ((congrArg bI (show F12_rules u = false from hF224.symm.trans (Eq.trans (if_neg c8) (Eq.trans (if_pos c16) (Eq.trans (if_neg c18) (rfl)))))).symm), ht⟩, hS.F ht⟩) hS.2.2 dX12_rules_309
              exact loop224 25 0 (by omega) (by omega) (((rfl).symm.trans hT222)) locs hS ls (lv_sub hl [0, 1] rfl)
            have tail115 : ∀ (hT115 : T12_rules_115 u z2 = F12_rules u), ∀ (locs : List Loc) (_ : va_S nF s.heap s.heap locs) (ls : Array Slot) (_ : lv_has ls 5 [(0, .ref b0)]), W p l e (headSpec wsX12_rules ({ frames := 4, cells := 0, slots := 0, locals := 95 })).room s m #[.ref b0] below meth c s.heap locs 0 0 (MQ below (va_Qi (fun (r : Int32) (_ : Unit) => r = bI (F12_rules u)) (qE s.heap) nF) #[.ref b0] s 0 0 nF) (F0 m 115 ls []) := by
              intro   hT115 locs hS ls hl
              refine lv_aload_n hx hb dX12_rules_115 rfl (lv_at hl 0 rfl) ?_
              have hPc : va_P D vwCl (wF [gX b0 (a4 0) b1 b2 b3, gO (a4 0) (a4 1) (a4 3) (a4 7) (a4 10) (a4 12) (a4 14) (a4 16) (pT u), gS cI (a4 1) (a4 2) (pS u), gWe cI (a4 3) (a4 4) (a4 5) (a4 6) (pW u), gK cI (a4 7) (a4 8) (a4 9) (pK u), gB cL (a4 10) (a4 11) (pB u), gP cI (a4 12) (a4 13) (pP u), gA cI (a4 14) (a4 15) (pA u), gC (a4 16) (pC u)]) s.heap := hP.sub [0, 1, 2, 3, 4, 5, 6, 7, 8, 9, 10, 11, 12, 13, 14, 15, 16, 17] rfl
              refine c_Ri (va_runV (As := []) (rest := []) ⟨hx, hb, hml, hown, hts⟩ (m10_pump l D cI cL cP b0 b1 b2 b3 a4 u s.heap) (cwV 0 hts gX12_rules_X10_pump rfl rfl rfl (by decide +kernel) ⟨Nat.le_of_ble_eq_true rfl, Nat.le_of_ble_eq_true rfl⟩) (preR_V (q := (RX10, TX10, 4)) (q0 := 0) hQ hPc rfl rfl) rfl rfl hl.1 rfl (lv_room (Nat.le_of_ble_eq_true rfl)) dX12_rules_116 ⟨Nat.le_of_ble_eq_true rfl, Nat.le_of_ble_eq_true rfl⟩) hS (fun locs hS => ?_)
              refine w_diaB (rest := []) (K := (F10_pump u) = (0 : Int32)) 127 (fun kt kf => ?_) ?_
              · refine lv_if_ne (tgt := 126) hx hb dX12_rules_119 (by decide) (fun c19 => ?_) (fun c19 => ?_)
                · have c19 : ¬ ((F10_pump u) = (0 : Int32)) := c19
                  refine lv_iconst (v := (0 : Int32)) hx hb dX12_rules_126 (by decide) ?_
                  exact kf c19
                · have c19 : (F10_pump u) = (0 : Int32) := c19
                  refine lv_iconst (v := (1 : Int32)) hx hb dX12_rules_122 (by decide) ?_
                  refine lv_goto (tgt := 127) hx hb dX12_rules_123 (by decide) ?_
                  exact kt c19
              refine lv_istore_n (lv' := [(2, .int (bI (decide ((F10_pump u) = (0 : Int32))))), (0, .ref b0)]) hx hb dX12_rules_127 rfl hl (by decide) rfl (fun ls hl => ?_)
              have tail177 : ∀ (hT177 : T12_rules_177 u z2 = F12_rules u), ∀ (locs : List Loc) (_ : va_S nF s.heap s.heap locs) (ls : Array Slot) (_ : lv_has ls 5 [(0, .ref b0)]), W p l e (headSpec wsX12_rules ({ frames := 4, cells := 0, slots := 0, locals := 95 })).room s m #[.ref b0] below meth c s.heap locs 0 0 (MQ below (va_Qi (fun (r : Int32) (_ : Unit) => r = bI (F12_rules u)) (qE s.heap) nF) #[.ref b0] s 0 0 nF) (F0 m 177 ls []) := by
                intro   hT177 locs hS ls hl
                refine lv_aload_n hx hb dX12_rules_177 rfl (lv_at hl 0 rfl) ?_
                have hPc : va_P D vwCl (wF [gX b0 (a4 0) b1 b2 b3, gO (a4 0) (a4 1) (a4 3) (a4 7) (a4 10) (a4 12) (a4 14) (a4 16) (pT u), gS cI (a4 1) (a4 2) (pS u), gWe cI (a4 3) (a4 4) (a4 5) (a4 6) (pW u), gK cI (a4 7) (a4 8) (a4 9) (pK u), gB cL (a4 10) (a4 11) (pB u), gP cI (a4 12) (a4 13) (pP u), gA cI (a4 14) (a4 15) (pA u), gC (a4 16) (pC u)]) s.heap := hP.sub [0, 1, 2, 3, 4, 5, 6, 7, 8, 9, 10, 11, 12, 13, 14, 15, 16, 17] rfl
                refine c_Ri (va_runV (As := []) (rest := []) ⟨hx, hb, hml, hown, hts⟩ (m10_pump l D cI cL cP b0 b1 b2 b3 a4 u s.heap) (cwV 0 hts gX12_rules_X10_pump rfl rfl rfl (by decide +kernel) ⟨Nat.le_of_ble_eq_true rfl, Nat.le_of_ble_eq_true rfl⟩) (preR_V (q := (RX10, TX10, 4)) (q0 := 0) hQ hPc rfl rfl) rfl rfl hl.1 rfl (lv_room (Nat.le_of_ble_eq_true rfl)) dX12_rules_178 ⟨Nat.le_of_ble_eq_true rfl, Nat.le_of_ble_eq_true rfl⟩) hS (fun locs hS => ?_)
                refine lv_iconst (v := (2 : Int32)) hx hb dX12_rules_181 (by decide) ?_
                refine w_diaB (rest := []) (K := (F10_pump u) = (2 : Int32)) 190 (fun kt kf => ?_) ?_
                · refine lv_icmp_ne (tgt := 189) hx hb dX12_rules_182 (by decide) (fun c20 => ?_) (fun c20 => ?_)
                  · have c20 : ¬ ((F10_pump u) = (2 : Int32)) := c20
                    refine lv_iconst (v := (0 : Int32)) hx hb dX12_rules_189 (by decide) ?_
                    exact kf c20
                  · have c20 : (F10_pump u) = (2 : Int32) := c20
                    refine lv_iconst (v := (1 : Int32)) hx hb dX12_rules_185 (by decide) ?_
                    refine lv_goto (tgt := 190) hx hb dX12_rules_186 (by decide) ?_
                    exact kt c20
                refine lv_aload_n hx hb dX12_rules_190 rfl (lv_at hl 0 rfl) ?_
                have hPc : va_P D vwCl (wF [gX b0 (a4 0) b1 b2 b3, gO (a4 0) (a4 1) (a4 3) (a4 7) (a4 10) (a4 12) (a4 14) (a4 16) (pT u), gS cI (a4 1) (a4 2) (pS u), gWe cI (a4 3) (a4 4) (a4 5) (a4 6) (pW u), gK cI (a4 7) (a4 8) (a4 9) (pK u), gB cL (a4 10) (a4 11) (pB u), gP cI (a4 12) (a4 13) (pP u), gA cI (a4 14) (a4 15) (pA u), gC (a4 16) (pC u)]) s.heap := hP.sub [0, 1, 2, 3, 4, 5, 6, 7, 8, 9, 10, 11, 12, 13, 14, 15, 16, 17] rfl
                refine c_Ri (va_runV (As := []) (rest := [.int (bI (decide ((F10_pump u) = (2 : Int32))))]) ⟨hx, hb, hml, hown, hts⟩ (m10_time l D cI cL cP b0 b1 b2 b3 a4 u s.heap) (cwV 0 hts gX12_rules_X10_time rfl rfl rfl (by decide +kernel) ⟨Nat.le_of_ble_eq_true rfl, Nat.le_of_ble_eq_true rfl⟩) (preR_V (q := (RX10, TX10, 4)) (q0 := 0) hQ hPc rfl rfl) rfl rfl hl.1 rfl (lv_room (Nat.le_of_ble_eq_true rfl)) dX12_rules_191 ⟨Nat.le_of_ble_eq_true rfl, Nat.le_of_ble_eq_true rfl⟩) hS (fun locs hS => ?_)
                refine lv_if_le (tgt := 216) hx hb dX12_rules_194 (by decide) (fun c21 => ?_) (fun c21 => ?_)
                · have c21 : (F10_time u) ≤ (0 : Int32) := c21
                  refine lv_iconst (v := (0 : Int32)) hx hb dX12_rules_216 (by decide) ?_
                  refine lv_icmp_eq (tgt := 222) hx hb dX12_rules_217 (by decide) (fun c22 => ?_) (fun c22 => ?_)
                  · have c22 : ¬ ((decide ((F10_pump u) = (2 : Int32))) = true) := bI_0.mp c22
                    exact tail222  ((Eq.trans (if_pos c21) (Eq.trans (if_neg c22) (rfl))).symm.trans hT177) locs hS ls (lv_sub hl [0] rfl)
                  · have c22 : (decide ((F10_pump u) = (2 : Int32))) = true := bI_1.mp c22
                    refine lv_iconst (v := (0 : Int32)) hx hb dX12_rules_220 (by decide) ?_
                    exact W.zret (v := (0 : Int32)) (ty := .boolean) hx hb hr rfl (fun t ht hW => ⟨⟨(0 : Int32), (), rfl, ((congrArg bI (show F12_rules u = false from hT177.symm.trans (Eq.trans (if_pos c21) (Eq.trans (if_pos c22) (rfl))))).symm), ht⟩, hS.F ht⟩) hS.2.2 dX12_rules_221
                · have c21 : ¬ ((F10_time u) ≤ (0 : Int32)) := c21
                  refine lv_aload_n hx hb dX12_rules_197 rfl (lv_at hl 0 rfl) ?_
                  have hPc : va_P D vwCl (wF [gX b0 (a4 0) b1 b2 b3, gO (a4 0) (a4 1) (a4 3) (a4 7) (a4 10) (a4 12) (a4 14) (a4 16) (pT u), gS cI (a4 1) (a4 2) (pS u), gWe cI (a4 3) (a4 4) (a4 5) (a4 6) (pW u), gK cI (a4 7) (a4 8) (a4 9) (pK u), gB cL (a4 10) (a4 11) (pB u), gP cI (a4 12) (a4 13) (pP u), gA cI (a4 14) (a4 15) (pA u), gC (a4 16) (pC u)]) s.heap := hP.sub [0, 1, 2, 3, 4, 5, 6, 7, 8, 9, 10, 11, 12, 13, 14, 15, 16, 17] rfl
                  refine c_Ri (va_runV (As := []) (rest := [.int (bI (decide ((F10_pump u) = (2 : Int32))))]) ⟨hx, hb, hml, hown, hts⟩ (m10_reason l D cI cL cP b0 b1 b2 b3 a4 u s.heap) (cwV 0 hts gX12_rules_X10_reason rfl rfl rfl (by decide +kernel) ⟨Nat.le_of_ble_eq_true rfl, Nat.le_of_ble_eq_true rfl⟩) (preR_V (q := (RX10, TX10, 4)) (q0 := 0) hQ hPc rfl rfl) rfl rfl hl.1 rfl (lv_room (Nat.le_of_ble_eq_true rfl)) dX12_rules_198 ⟨Nat.le_of_ble_eq_true rfl, Nat.le_of_ble_eq_true rfl⟩) hS (fun locs hS => ?_)
                  refine lv_if_eq (tgt := 212) hx hb dX12_rules_201 (by decide) (fun c23 => ?_) (fun c23 => ?_)
                  · have c23 : (F10_reason u) = (0 : Int32) := c23
                    refine lv_iconst (v := (1 : Int32)) hx hb dX12_rules_212 (by decide) ?_
                    refine lv_goto (tgt := 217) hx hb dX12_rules_213 (by decide) ?_
                    refine lv_icmp_eq (tgt := 222) hx hb dX12_rules_217 (by decide) (fun c24 => ?_) (fun c24 => ?_)
                    · have c24 : (bI (decide ((F10_pump u) = (2 : Int32)))) = (1 : Int32) := c24
                      exact tail222  ((Eq.trans (if_neg c21) (Eq.trans (if_pos c23) (Eq.trans (if_pos c24) (rfl)))).symm.trans hT177) locs hS ls (lv_sub hl [0] rfl)
                    · have c24 : ¬ ((bI (decide ((F10_pump u) = (2 : Int32)))) = (1 : Int32)) := c24
                      refine lv_iconst (v := (0 : Int32)) hx hb dX12_rules_220 (by decide) ?_
                      exact W.zret (v := (0 : Int32)) (ty := .boolean) hx hb hr rfl (fun t ht hW => ⟨⟨(0 : Int32), (), rfl, ((congrArg bI (show F12_rules u = false from hT177.symm.trans (Eq.trans (if_neg c21) (Eq.trans (if_pos c23) (Eq.trans (if_neg c24) (rfl)))))).symm), ht⟩, hS.F ht⟩) hS.2.2 dX12_rules_221
                  · have c23 : ¬ ((F10_reason u) = (0 : Int32)) := c23
                    refine lv_aload_n hx hb dX12_rules_204 rfl (lv_at hl 0 rfl) ?_
                    have hPc : va_P D vwCl (wF [gX b0 (a4 0) b1 b2 b3, gO (a4 0) (a4 1) (a4 3) (a4 7) (a4 10) (a4 12) (a4 14) (a4 16) (pT u), gS cI (a4 1) (a4 2) (pS u), gWe cI (a4 3) (a4 4) (a4 5) (a4 6) (pW u), gK cI (a4 7) (a4 8) (a4 9) (pK u), gB cL (a4 10) (a4 11) (pB u), gP cI (a4 12) (a4 13) (pP u), gA cI (a4 14) (a4 15) (pA u), gC (a4 16) (pC u)]) s.heap := hP.sub [0, 1, 2, 3, 4, 5, 6, 7, 8, 9, 10, 11, 12, 13, 14, 15, 16, 17] rfl
                    refine c_Ri (va_runV (As := []) (rest := [.int (bI (decide ((F10_pump u) = (2 : Int32))))]) ⟨hx, hb, hml, hown, hts⟩ (m10_reason l D cI cL cP b0 b1 b2 b3 a4 u s.heap) (cwV 0 hts gX12_rules_X10_reason rfl rfl rfl (by decide +kernel) ⟨Nat.le_of_ble_eq_true rfl, Nat.le_of_ble_eq_true rfl⟩) (preR_V (q := (RX10, TX10, 4)) (q0 := 0) hQ hPc rfl rfl) rfl rfl hl.1 rfl (lv_room (Nat.le_of_ble_eq_true rfl)) dX12_rules_205 ⟨Nat.le_of_ble_eq_true rfl, Nat.le_of_ble_eq_true rfl⟩) hS (fun locs hS => ?_)
                    refine lv_iconst (v := (4 : Int32)) hx hb dX12_rules_208 (by decide) ?_
                    refine lv_icmp_ne (tgt := 216) hx hb dX12_rules_209 (by decide) (fun c25 => ?_) (fun c25 => ?_)
                    · have c25 : ¬ ((F10_reason u) = (4 : Int32)) := c25
                      refine lv_iconst (v := (0 : Int32)) hx hb dX12_rules_216 (by decide) ?_
                      refine lv_icmp_eq (tgt := 222) hx hb dX12_rules_217 (by decide) (fun c26 => ?_) (fun c26 => ?_)
                      · have c26 : ¬ ((decide ((F10_pump u) = (2 : Int32))) = true) := bI_0.mp c26
                        exact tail222  ((Eq.trans (if_neg c21) (Eq.trans (if_neg c23) (Eq.trans (if_neg c25) (Eq.trans (if_neg c26) (rfl))))).symm.trans hT177) locs hS ls (lv_sub hl [0] rfl)
                      · have c26 : (decide ((F10_pump u) = (2 : Int32))) = true := bI_1.mp c26
                        refine lv_iconst (v := (0 : Int32)) hx hb dX12_rules_220 (by decide) ?_
                        exact W.zret (v := (0 : Int32)) (ty := .boolean) hx hb hr rfl (fun t ht hW => ⟨⟨(0 : Int32), (), rfl, ((congrArg bI (show F12_rules u = false from hT177.symm.trans (Eq.trans (if_neg c21) (Eq.trans (if_neg c23) (Eq.trans (if_neg c25) (Eq.trans (if_pos c26) (rfl))))))).symm), ht⟩, hS.F ht⟩) hS.2.2 dX12_rules_221
                    · have c25 : (F10_reason u) = (4 : Int32) := c25
                      refine lv_iconst (v := (1 : Int32)) hx hb dX12_rules_212 (by decide) ?_
                      refine lv_goto (tgt := 217) hx hb dX12_rules_213 (by decide) ?_
                      refine lv_icmp_eq (tgt := 222) hx hb dX12_rules_217 (by decide) (fun c27 => ?_) (fun c27 => ?_)
                      · have c27 : (bI (decide ((F10_pump u) = (2 : Int32)))) = (1 : Int32) := c27
                        exact tail222  ((Eq.trans (if_neg c21) (Eq.trans (if_neg c23) (Eq.trans (if_pos c25) (Eq.trans (if_pos c27) (rfl))))).symm.trans hT177) locs hS ls (lv_sub hl [0] rfl)
                      · have c27 : ¬ ((bI (decide ((F10_pump u) = (2 : Int32)))) = (1 : Int32)) := c27
                        refine lv_iconst (v := (0 : Int32)) hx hb dX12_rules_220 (by decide) ?_
                        exact W.zret (v := (0 : Int32)) (ty := .boolean) hx hb hr rfl (fun t ht hW => ⟨⟨(0 : Int32), (), rfl, ((congrArg bI (show F12_rules u = false from hT177.symm.trans (Eq.trans (if_neg c21) (Eq.trans (if_neg c23) (Eq.trans (if_pos c25) (Eq.trans (if_neg c27) (rfl))))))).symm), ht⟩, hS.F ht⟩) hS.2.2 dX12_rules_221
              refine lv_aload_n hx hb dX12_rules_128 rfl (lv_at hl 1 rfl) ?_
              have hPc : va_P D vwCl (wF [gX b0 (a4 0) b1 b2 b3, gO (a4 0) (a4 1) (a4 3) (a4 7) (a4 10) (a4 12) (a4 14) (a4 16) (pT u), gS cI (a4 1) (a4 2) (pS u), gWe cI (a4 3) (a4 4) (a4 5) (a4 6) (pW u), gK cI (a4 7) (a4 8) (a4 9) (pK u), gB cL (a4 10) (a4 11) (pB u), gP cI (a4 12) (a4 13) (pP u), gA cI (a4 14) (a4 15) (pA u), gC (a4 16) (pC u)]) s.heap := hP.sub [0, 1, 2, 3, 4, 5, 6, 7, 8, 9, 10, 11, 12, 13, 14, 15, 16, 17] rfl
              refine c_Ri (va_runV (As := []) (rest := []) ⟨hx, hb, hml, hown, hts⟩ (m10_time l D cI cL cP b0 b1 b2 b3 a4 u s.heap) (cwV 0 hts gX12_rules_X10_time rfl rfl rfl (by decide +kernel) ⟨Nat.le_of_ble_eq_true rfl, Nat.le_of_ble_eq_true rfl⟩) (preR_V (q := (RX10, TX10, 4)) (q0 := 0) hQ hPc rfl rfl) rfl rfl hl.1 rfl (lv_room (Nat.le_of_ble_eq_true rfl)) dX12_rules_129 ⟨Nat.le_of_ble_eq_true rfl, Nat.le_of_ble_eq_true rfl⟩) hS (fun locs hS => ?_)
              refine lv_if_le (tgt := 177) hx hb dX12_rules_132 (by decide) (fun c28 => ?_) (fun c28 => ?_)
              · have c28 : (F10_time u) ≤ (0 : Int32) := c28
                exact tail177  ((Eq.trans (if_pos c28) (rfl)).symm.trans hT115) locs hS ls (lv_sub hl [1] rfl)
              · have c28 : ¬ ((F10_time u) ≤ (0 : Int32)) := c28
                refine lv_iload_n hx hb dX12_rules_135 rfl (lv_at hl 0 rfl) ?_
                refine lv_aload_n hx hb dX12_rules_136 rfl (lv_at hl 1 rfl) ?_
                have hPc : va_P D vwCl (wF [gX b0 (a4 0) b1 b2 b3, gO (a4 0) (a4 1) (a4 3) (a4 7) (a4 10) (a4 12) (a4 14) (a4 16) (pT u), gS cI (a4 1) (a4 2) (pS u), gWe cI (a4 3) (a4 4) (a4 5) (a4 6) (pW u), gK cI (a4 7) (a4 8) (a4 9) (pK u), gB cL (a4 10) (a4 11) (pB u), gP cI (a4 12) (a4 13) (pP u), gA cI (a4 14) (a4 15) (pA u), gC (a4 16) (pC u)]) s.heap := hP.sub [0, 1, 2, 3, 4, 5, 6, 7, 8, 9, 10, 11, 12, 13, 14, 15, 16, 17] rfl
                refine c_Ri (va_runV (As := []) (rest := [.int (bI (decide ((F10_pump u) = (0 : Int32))))]) ⟨hx, hb, hml, hown, hts⟩ (m10_reason l D cI cL cP b0 b1 b2 b3 a4 u s.heap) (cwV 0 hts gX12_rules_X10_reason rfl rfl rfl (by decide +kernel) ⟨Nat.le_of_ble_eq_true rfl, Nat.le_of_ble_eq_true rfl⟩) (preR_V (q := (RX10, TX10, 4)) (q0 := 0) hQ hPc rfl rfl) rfl rfl hl.1 rfl (lv_room (Nat.le_of_ble_eq_true rfl)) dX12_rules_137 ⟨Nat.le_of_ble_eq_true rfl, Nat.le_of_ble_eq_true rfl⟩) hS (fun locs hS => ?_)
                refine lv_iconst (v := (1 : Int32)) hx hb dX12_rules_140 (by decide) ?_
                refine lv_icmp_eq (tgt := 169) hx hb dX12_rules_141 (by decide) (fun c29 => ?_) (fun c29 => ?_)
                · have c29 : (F10_reason u) = (1 : Int32) := c29
                  refine lv_iconst (v := (1 : Int32)) hx hb dX12_rules_169 (by decide) ?_
                  refine lv_goto (tgt := 174) hx hb dX12_rules_170 (by decide) ?_
                  refine lv_icmp_ne (tgt := 220) hx hb dX12_rules_174 (by decide) (fun c30 => ?_) (fun c30 => ?_)
                  · have c30 : ¬ ((bI (decide ((F10_pump u) = (0 : Int32)))) = (1 : Int32)) := c30
                    refine lv_iconst (v := (0 : Int32)) hx hb dX12_rules_220 (by decide) ?_
                    exact W.zret (v := (0 : Int32)) (ty := .boolean) hx hb hr rfl (fun t ht hW => ⟨⟨(0 : Int32), (), rfl, ((congrArg bI (show F12_rules u = false from hT115.symm.trans (Eq.trans (if_neg c28) (Eq.trans (if_pos c29) (Eq.trans (if_neg c30) (rfl)))))).symm), ht⟩, hS.F ht⟩) hS.2.2 dX12_rules_221
                  · have c30 : (bI (decide ((F10_pump u) = (0 : Int32)))) = (1 : Int32) := c30
                    exact tail177  ((Eq.trans (if_neg c28) (Eq.trans (if_pos c29) (Eq.trans (if_pos c30) (rfl)))).symm.trans hT115) locs hS ls (lv_sub hl [1] rfl)
                · have c29 : ¬ ((F10_reason u) = (1 : Int32)) := c29
                  refine lv_aload_n hx hb dX12_rules_144 rfl (lv_at hl 1 rfl) ?_
                  have hPc : va_P D vwCl (wF [gX b0 (a4 0) b1 b2 b3, gO (a4 0) (a4 1) (a4 3) (a4 7) (a4 10) (a4 12) (a4 14) (a4 16) (pT u), gS cI (a4 1) (a4 2) (pS u), gWe cI (a4 3) (a4 4) (a4 5) (a4 6) (pW u), gK cI (a4 7) (a4 8) (a4 9) (pK u), gB cL (a4 10) (a4 11) (pB u), gP cI (a4 12) (a4 13) (pP u), gA cI (a4 14) (a4 15) (pA u), gC (a4 16) (pC u)]) s.heap := hP.sub [0, 1, 2, 3, 4, 5, 6, 7, 8, 9, 10, 11, 12, 13, 14, 15, 16, 17] rfl
                  refine c_Ri (va_runV (As := []) (rest := [.int (bI (decide ((F10_pump u) = (0 : Int32))))]) ⟨hx, hb, hml, hown, hts⟩ (m10_reason l D cI cL cP b0 b1 b2 b3 a4 u s.heap) (cwV 0 hts gX12_rules_X10_reason rfl rfl rfl (by decide +kernel) ⟨Nat.le_of_ble_eq_true rfl, Nat.le_of_ble_eq_true rfl⟩) (preR_V (q := (RX10, TX10, 4)) (q0 := 0) hQ hPc rfl rfl) rfl rfl hl.1 rfl (lv_room (Nat.le_of_ble_eq_true rfl)) dX12_rules_145 ⟨Nat.le_of_ble_eq_true rfl, Nat.le_of_ble_eq_true rfl⟩) hS (fun locs hS => ?_)
                  refine lv_iconst (v := (3 : Int32)) hx hb dX12_rules_148 (by decide) ?_
                  refine lv_icmp_eq (tgt := 169) hx hb dX12_rules_149 (by decide) (fun c31 => ?_) (fun c31 => ?_)
                  · have c31 : (F10_reason u) = (3 : Int32) := c31
                    refine lv_iconst (v := (1 : Int32)) hx hb dX12_rules_169 (by decide) ?_
                    refine lv_goto (tgt := 174) hx hb dX12_rules_170 (by decide) ?_
                    refine lv_icmp_ne (tgt := 220) hx hb dX12_rules_174 (by decide) (fun c32 => ?_) (fun c32 => ?_)
                    · have c32 : ¬ ((bI (decide ((F10_pump u) = (0 : Int32)))) = (1 : Int32)) := c32
                      refine lv_iconst (v := (0 : Int32)) hx hb dX12_rules_220 (by decide) ?_
                      exact W.zret (v := (0 : Int32)) (ty := .boolean) hx hb hr rfl (fun t ht hW => ⟨⟨(0 : Int32), (), rfl, ((congrArg bI (show F12_rules u = false from hT115.symm.trans (Eq.trans (if_neg c28) (Eq.trans (if_neg c29) (Eq.trans (if_pos c31) (Eq.trans (if_neg c32) (rfl))))))).symm), ht⟩, hS.F ht⟩) hS.2.2 dX12_rules_221
                    · have c32 : (bI (decide ((F10_pump u) = (0 : Int32)))) = (1 : Int32) := c32
                      exact tail177  ((Eq.trans (if_neg c28) (Eq.trans (if_neg c29) (Eq.trans (if_pos c31) (Eq.trans (if_pos c32) (rfl))))).symm.trans hT115) locs hS ls (lv_sub hl [1] rfl)
                  · have c31 : ¬ ((F10_reason u) = (3 : Int32)) := c31
                    refine lv_aload_n hx hb dX12_rules_152 rfl (lv_at hl 1 rfl) ?_
                    have hPc : va_P D vwCl (wF [gX b0 (a4 0) b1 b2 b3, gO (a4 0) (a4 1) (a4 3) (a4 7) (a4 10) (a4 12) (a4 14) (a4 16) (pT u), gS cI (a4 1) (a4 2) (pS u), gWe cI (a4 3) (a4 4) (a4 5) (a4 6) (pW u), gK cI (a4 7) (a4 8) (a4 9) (pK u), gB cL (a4 10) (a4 11) (pB u), gP cI (a4 12) (a4 13) (pP u), gA cI (a4 14) (a4 15) (pA u), gC (a4 16) (pC u)]) s.heap := hP.sub [0, 1, 2, 3, 4, 5, 6, 7, 8, 9, 10, 11, 12, 13, 14, 15, 16, 17] rfl
                    refine c_Ri (va_runV (As := []) (rest := [.int (bI (decide ((F10_pump u) = (0 : Int32))))]) ⟨hx, hb, hml, hown, hts⟩ (m10_reason l D cI cL cP b0 b1 b2 b3 a4 u s.heap) (cwV 0 hts gX12_rules_X10_reason rfl rfl rfl (by decide +kernel) ⟨Nat.le_of_ble_eq_true rfl, Nat.le_of_ble_eq_true rfl⟩) (preR_V (q := (RX10, TX10, 4)) (q0 := 0) hQ hPc rfl rfl) rfl rfl hl.1 rfl (lv_room (Nat.le_of_ble_eq_true rfl)) dX12_rules_153 ⟨Nat.le_of_ble_eq_true rfl, Nat.le_of_ble_eq_true rfl⟩) hS (fun locs hS => ?_)
                    refine lv_iconst (v := (5 : Int32)) hx hb dX12_rules_156 (by decide) ?_
                    refine lv_icmp_le (tgt := 173) hx hb dX12_rules_157 (by decide) (fun c33 => ?_) (fun c33 => ?_)
                    · have c33 : (F10_reason u) ≤ (5 : Int32) := c33
                      refine lv_iconst (v := (0 : Int32)) hx hb dX12_rules_173 (by decide) ?_
                      refine lv_icmp_ne (tgt := 220) hx hb dX12_rules_174 (by decide) (fun c34 => ?_) (fun c34 => ?_)
                      · have c34 : (decide ((F10_pump u) = (0 : Int32))) = true := bI_1.mp c34
                        refine lv_iconst (v := (0 : Int32)) hx hb dX12_rules_220 (by decide) ?_
                        exact W.zret (v := (0 : Int32)) (ty := .boolean) hx hb hr rfl (fun t ht hW => ⟨⟨(0 : Int32), (), rfl, ((congrArg bI (show F12_rules u = false from hT115.symm.trans (Eq.trans (if_neg c28) (Eq.trans (if_neg c29) (Eq.trans (if_neg c31) (Eq.trans (if_pos c33) (Eq.trans (if_pos c34) (rfl)))))))).symm), ht⟩, hS.F ht⟩) hS.2.2 dX12_rules_221
                      · have c34 : ¬ ((decide ((F10_pump u) = (0 : Int32))) = true) := bI_0.mp c34
                        exact tail177  ((Eq.trans (if_neg c28) (Eq.trans (if_neg c29) (Eq.trans (if_neg c31) (Eq.trans (if_pos c33) (Eq.trans (if_neg c34) (rfl)))))).symm.trans hT115) locs hS ls (lv_sub hl [1] rfl)
                    · have c33 : ¬ ((F10_reason u) ≤ (5 : Int32)) := c33
                      refine lv_aload_n hx hb dX12_rules_160 rfl (lv_at hl 1 rfl) ?_
                      have hPc : va_P D vwCl (wF [gX b0 (a4 0) b1 b2 b3, gO (a4 0) (a4 1) (a4 3) (a4 7) (a4 10) (a4 12) (a4 14) (a4 16) (pT u), gS cI (a4 1) (a4 2) (pS u), gWe cI (a4 3) (a4 4) (a4 5) (a4 6) (pW u), gK cI (a4 7) (a4 8) (a4 9) (pK u), gB cL (a4 10) (a4 11) (pB u), gP cI (a4 12) (a4 13) (pP u), gA cI (a4 14) (a4 15) (pA u), gC (a4 16) (pC u)]) s.heap := hP.sub [0, 1, 2, 3, 4, 5, 6, 7, 8, 9, 10, 11, 12, 13, 14, 15, 16, 17] rfl
                      refine c_Ri (va_runV (As := []) (rest := [.int (bI (decide ((F10_pump u) = (0 : Int32))))]) ⟨hx, hb, hml, hown, hts⟩ (m10_reason l D cI cL cP b0 b1 b2 b3 a4 u s.heap) (cwV 0 hts gX12_rules_X10_reason rfl rfl rfl (by decide +kernel) ⟨Nat.le_of_ble_eq_true rfl, Nat.le_of_ble_eq_true rfl⟩) (preR_V (q := (RX10, TX10, 4)) (q0 := 0) hQ hPc rfl rfl) rfl rfl hl.1 rfl (lv_room (Nat.le_of_ble_eq_true rfl)) dX12_rules_161 ⟨Nat.le_of_ble_eq_true rfl, Nat.le_of_ble_eq_true rfl⟩) hS (fun locs hS => ?_)
                      refine lv_bipush (v := (11 : Int32)) hx hb dX12_rules_164 (by decide) ?_
                      refine lv_icmp_ge (tgt := 173) hx hb dX12_rules_166 (by decide) (fun c35 => ?_) (fun c35 => ?_)
                      · have c35 : (11 : Int32) ≤ (F10_reason u) := c35
                        refine lv_iconst (v := (0 : Int32)) hx hb dX12_rules_173 (by decide) ?_
                        refine lv_icmp_ne (tgt := 220) hx hb dX12_rules_174 (by decide) (fun c36 => ?_) (fun c36 => ?_)
                        · have c36 : (decide ((F10_pump u) = (0 : Int32))) = true := bI_1.mp c36
                          refine lv_iconst (v := (0 : Int32)) hx hb dX12_rules_220 (by decide) ?_
                          exact W.zret (v := (0 : Int32)) (ty := .boolean) hx hb hr rfl (fun t ht hW => ⟨⟨(0 : Int32), (), rfl, ((congrArg bI (show F12_rules u = false from hT115.symm.trans (Eq.trans (if_neg c28) (Eq.trans (if_neg c29) (Eq.trans (if_neg c31) (Eq.trans (if_neg c33) (Eq.trans (if_pos c35) (Eq.trans (if_pos c36) (rfl))))))))).symm), ht⟩, hS.F ht⟩) hS.2.2 dX12_rules_221
                        · have c36 : ¬ ((decide ((F10_pump u) = (0 : Int32))) = true) := bI_0.mp c36
                          exact tail177  ((Eq.trans (if_neg c28) (Eq.trans (if_neg c29) (Eq.trans (if_neg c31) (Eq.trans (if_neg c33) (Eq.trans (if_pos c35) (Eq.trans (if_neg c36) (rfl))))))).symm.trans hT115) locs hS ls (lv_sub hl [1] rfl)
                      · have c35 : ¬ ((11 : Int32) ≤ (F10_reason u)) := c35
                        refine lv_iconst (v := (1 : Int32)) hx hb dX12_rules_169 (by decide) ?_
                        refine lv_goto (tgt := 174) hx hb dX12_rules_170 (by decide) ?_
                        refine lv_icmp_ne (tgt := 220) hx hb dX12_rules_174 (by decide) (fun c37 => ?_) (fun c37 => ?_)
                        · have c37 : ¬ ((bI (decide ((F10_pump u) = (0 : Int32)))) = (1 : Int32)) := c37
                          refine lv_iconst (v := (0 : Int32)) hx hb dX12_rules_220 (by decide) ?_
                          exact W.zret (v := (0 : Int32)) (ty := .boolean) hx hb hr rfl (fun t ht hW => ⟨⟨(0 : Int32), (), rfl, ((congrArg bI (show F12_rules u = false from hT115.symm.trans (Eq.trans (if_neg c28) (Eq.trans (if_neg c29) (Eq.trans (if_neg c31) (Eq.trans (if_neg c33) (Eq.trans (if_neg c35) (Eq.trans (if_neg c37) (rfl))))))))).symm), ht⟩, hS.F ht⟩) hS.2.2 dX12_rules_221
                        · have c37 : (bI (decide ((F10_pump u) = (0 : Int32)))) = (1 : Int32) := c37
                          exact tail177  ((Eq.trans (if_neg c28) (Eq.trans (if_neg c29) (Eq.trans (if_neg c31) (Eq.trans (if_neg c33) (Eq.trans (if_neg c35) (Eq.trans (if_pos c37) (rfl))))))).symm.trans hT115) locs hS ls (lv_sub hl [1] rfl)
            refine lv_aload_n hx hb dX12_rules_77 rfl (lv_at hl 2 rfl) ?_
            have hPc : va_P D vwCl (wF [gX b0 (a4 0) b1 b2 b3, gO (a4 0) (a4 1) (a4 3) (a4 7) (a4 10) (a4 12) (a4 14) (a4 16) (pT u), gS cI (a4 1) (a4 2) (pS u), gWe cI (a4 3) (a4 4) (a4 5) (a4 6) (pW u), gK cI (a4 7) (a4 8) (a4 9) (pK u), gB cL (a4 10) (a4 11) (pB u), gP cI (a4 12) (a4 13) (pP u), gA cI (a4 14) (a4 15) (pA u), gC (a4 16) (pC u)]) s.heap := hP.sub [0, 1, 2, 3, 4, 5, 6, 7, 8, 9, 10, 11, 12, 13, 14, 15, 16, 17] rfl
            refine c_Ri (va_runV (As := []) (rest := []) ⟨hx, hb, hml, hown, hts⟩ (m10_time l D cI cL cP b0 b1 b2 b3 a4 u s.heap) (cwV 0 hts gX12_rules_X10_time rfl rfl rfl (by decide +kernel) ⟨Nat.le_of_ble_eq_true rfl, Nat.le_of_ble_eq_true rfl⟩) (preR_V (q := (RX10, TX10, 4)) (q0 := 0) hQ hPc rfl rfl) rfl rfl hl.1 rfl (lv_room (Nat.le_of_ble_eq_true rfl)) dX12_rules_78 ⟨Nat.le_of_ble_eq_true rfl, Nat.le_of_ble_eq_true rfl⟩) hS (fun locs hS => ?_)
            refine lv_if_ne (tgt := 97) hx hb dX12_rules_81 (by decide) (fun c38 => ?_) (fun c38 => ?_)
            · have c38 : ¬ ((F10_time u) = (0 : Int32)) := c38
              refine lv_aload_n hx hb dX12_rules_97 rfl (lv_at hl 2 rfl) ?_
              have hPc : va_P D vwCl (wF [gX b0 (a4 0) b1 b2 b3, gO (a4 0) (a4 1) (a4 3) (a4 7) (a4 10) (a4 12) (a4 14) (a4 16) (pT u), gS cI (a4 1) (a4 2) (pS u), gWe cI (a4 3) (a4 4) (a4 5) (a4 6) (pW u), gK cI (a4 7) (a4 8) (a4 9) (pK u), gB cL (a4 10) (a4 11) (pB u), gP cI (a4 12) (a4 13) (pP u), gA cI (a4 14) (a4 15) (pA u), gC (a4 16) (pC u)]) s.heap := hP.sub [0, 1, 2, 3, 4, 5, 6, 7, 8, 9, 10, 11, 12, 13, 14, 15, 16, 17] rfl
              refine c_Ri (va_runV (As := []) (rest := []) ⟨hx, hb, hml, hown, hts⟩ (m10_reason l D cI cL cP b0 b1 b2 b3 a4 u s.heap) (cwV 0 hts gX12_rules_X10_reason rfl rfl rfl (by decide +kernel) ⟨Nat.le_of_ble_eq_true rfl, Nat.le_of_ble_eq_true rfl⟩) (preR_V (q := (RX10, TX10, 4)) (q0 := 0) hQ hPc rfl rfl) rfl rfl hl.1 rfl (lv_room (Nat.le_of_ble_eq_true rfl)) dX12_rules_98 ⟨Nat.le_of_ble_eq_true rfl, Nat.le_of_ble_eq_true rfl⟩) hS (fun locs hS => ?_)
              refine lv_if_lt (tgt := 113) hx hb dX12_rules_101 (by decide) (fun c39 => ?_) (fun c39 => ?_)
              · have c39 : (F10_reason u) < (0 : Int32) := c39
                refine lv_iconst (v := (0 : Int32)) hx hb dX12_rules_113 (by decide) ?_
                exact W.zret (v := (0 : Int32)) (ty := .boolean) hx hb hr rfl (fun t ht hW => ⟨⟨(0 : Int32), (), rfl, ((congrArg bI (show F12_rules u = false from Eq.trans (congrArg (K12_rules_1 u) hz2.symm) (Eq.trans (if_pos c3) (Eq.trans (if_pos c4) (Eq.trans (if_pos c5) (Eq.trans (if_neg c6) (Eq.trans (if_pos c7) (Eq.trans (if_neg c38) (Eq.trans (if_pos c39) (rfl)))))))))).symm), ht⟩, hS.F ht⟩) hS.2.2 dX12_rules_114
              · have c39 : ¬ ((F10_reason u) < (0 : Int32)) := c39
                refine lv_aload_n hx hb dX12_rules_104 rfl (lv_at hl 2 rfl) ?_
                have hPc : va_P D vwCl (wF [gX b0 (a4 0) b1 b2 b3, gO (a4 0) (a4 1) (a4 3) (a4 7) (a4 10) (a4 12) (a4 14) (a4 16) (pT u), gS cI (a4 1) (a4 2) (pS u), gWe cI (a4 3) (a4 4) (a4 5) (a4 6) (pW u), gK cI (a4 7) (a4 8) (a4 9) (pK u), gB cL (a4 10) (a4 11) (pB u), gP cI (a4 12) (a4 13) (pP u), gA cI (a4 14) (a4 15) (pA u), gC (a4 16) (pC u)]) s.heap := hP.sub [0, 1, 2, 3, 4, 5, 6, 7, 8, 9, 10, 11, 12, 13, 14, 15, 16, 17] rfl
                refine c_Ri (va_runV (As := []) (rest := []) ⟨hx, hb, hml, hown, hts⟩ (m10_reason l D cI cL cP b0 b1 b2 b3 a4 u s.heap) (cwV 0 hts gX12_rules_X10_reason rfl rfl rfl (by decide +kernel) ⟨Nat.le_of_ble_eq_true rfl, Nat.le_of_ble_eq_true rfl⟩) (preR_V (q := (RX10, TX10, 4)) (q0 := 0) hQ hPc rfl rfl) rfl rfl hl.1 rfl (lv_room (Nat.le_of_ble_eq_true rfl)) dX12_rules_105 ⟨Nat.le_of_ble_eq_true rfl, Nat.le_of_ble_eq_true rfl⟩) hS (fun locs hS => ?_)
                refine lv_bipush (v := (11 : Int32)) hx hb dX12_rules_108 (by decide) ?_
                refine lv_icmp_le (tgt := 115) hx hb dX12_rules_110 (by decide) (fun c40 => ?_) (fun c40 => ?_)
                · have c40 : (F10_reason u) ≤ (11 : Int32) := c40
                  exact tail115  (Eq.trans (congrArg (K12_rules_1 u) hz2.symm) (Eq.trans (if_pos c3) (Eq.trans (if_pos c4) (Eq.trans (if_pos c5) (Eq.trans (if_neg c6) (Eq.trans (if_pos c7) (Eq.trans (if_neg c38) (Eq.trans (if_neg c39) (Eq.trans (if_pos c40) (rfl)))))))))).symm locs hS ls (lv_sub hl [2] rfl)
                · have c40 : ¬ ((F10_reason u) ≤ (11 : Int32)) := c40
                  refine lv_iconst (v := (0 : Int32)) hx hb dX12_rules_113 (by decide) ?_
                  exact W.zret (v := (0 : Int32)) (ty := .boolean) hx hb hr rfl (fun t ht hW => ⟨⟨(0 : Int32), (), rfl, ((congrArg bI (show F12_rules u = false from Eq.trans (congrArg (K12_rules_1 u) hz2.symm) (Eq.trans (if_pos c3) (Eq.trans (if_pos c4) (Eq.trans (if_pos c5) (Eq.trans (if_neg c6) (Eq.trans (if_pos c7) (Eq.trans (if_neg c38) (Eq.trans (if_neg c39) (Eq.trans (if_neg c40) (rfl))))))))))).symm), ht⟩, hS.F ht⟩) hS.2.2 dX12_rules_114
            · have c38 : (F10_time u) = (0 : Int32) := c38
              refine lv_aload_n hx hb dX12_rules_84 rfl (lv_at hl 2 rfl) ?_
              have hPc : va_P D vwCl (wF [gX b0 (a4 0) b1 b2 b3, gO (a4 0) (a4 1) (a4 3) (a4 7) (a4 10) (a4 12) (a4 14) (a4 16) (pT u), gS cI (a4 1) (a4 2) (pS u), gWe cI (a4 3) (a4 4) (a4 5) (a4 6) (pW u), gK cI (a4 7) (a4 8) (a4 9) (pK u), gB cL (a4 10) (a4 11) (pB u), gP cI (a4 12) (a4 13) (pP u), gA cI (a4 14) (a4 15) (pA u), gC (a4 16) (pC u)]) s.heap := hP.sub [0, 1, 2, 3, 4, 5, 6, 7, 8, 9, 10, 11, 12, 13, 14, 15, 16, 17] rfl
              refine c_Ri (va_runV (As := []) (rest := []) ⟨hx, hb, hml, hown, hts⟩ (m10_reason l D cI cL cP b0 b1 b2 b3 a4 u s.heap) (cwV 0 hts gX12_rules_X10_reason rfl rfl rfl (by decide +kernel) ⟨Nat.le_of_ble_eq_true rfl, Nat.le_of_ble_eq_true rfl⟩) (preR_V (q := (RX10, TX10, 4)) (q0 := 0) hQ hPc rfl rfl) rfl rfl hl.1 rfl (lv_room (Nat.le_of_ble_eq_true rfl)) dX12_rules_85 ⟨Nat.le_of_ble_eq_true rfl, Nat.le_of_ble_eq_true rfl⟩) hS (fun locs hS => ?_)
              refine lv_sipush (v := (-9999 : Int32)) hx hb dX12_rules_88 (by decide) ?_
              refine lv_icmp_eq (tgt := 115) hx hb dX12_rules_91 (by decide) (fun c41 => ?_) (fun c41 => ?_)
              · have c41 : (F10_reason u) = (-9999 : Int32) := c41
                exact tail115  (Eq.trans (congrArg (K12_rules_1 u) hz2.symm) (Eq.trans (if_pos c3) (Eq.trans (if_pos c4) (Eq.trans (if_pos c5) (Eq.trans (if_neg c6) (Eq.trans (if_pos c7) (Eq.trans (if_pos c38) (Eq.trans (if_pos c41) (rfl))))))))).symm locs hS ls (lv_sub hl [2] rfl)
              · have c41 : ¬ ((F10_reason u) = (-9999 : Int32)) := c41
                refine lv_goto (tgt := 113) hx hb dX12_rules_94 (by decide) ?_
                refine lv_iconst (v := (0 : Int32)) hx hb dX12_rules_113 (by decide) ?_
                exact W.zret (v := (0 : Int32)) (ty := .boolean) hx hb hr rfl (fun t ht hW => ⟨⟨(0 : Int32), (), rfl, ((congrArg bI (show F12_rules u = false from Eq.trans (congrArg (K12_rules_1 u) hz2.symm) (Eq.trans (if_pos c3) (Eq.trans (if_pos c4) (Eq.trans (if_pos c5) (Eq.trans (if_neg c6) (Eq.trans (if_pos c7) (Eq.trans (if_pos c38) (Eq.trans (if_neg c41) (rfl)))))))))).symm), ht⟩, hS.F ht⟩) hS.2.2 dX12_rules_114
          · have c7 : ¬ ((0 : Int32) ≤ (F10_startsLastHour u)) := c7
            refine lv_iconst (v := (0 : Int32)) hx hb dX12_rules_75 (by decide) ?_
            exact W.zret (v := (0 : Int32)) (ty := .boolean) hx hb hr rfl (fun t ht hW => ⟨⟨(0 : Int32), (), rfl, ((congrArg bI (show F12_rules u = false from Eq.trans (congrArg (K12_rules_1 u) hz2.symm) (Eq.trans (if_pos c3) (Eq.trans (if_pos c4) (Eq.trans (if_pos c5) (Eq.trans (if_neg c6) (Eq.trans (if_neg c7) (rfl)))))))).symm), ht⟩, hS.F ht⟩) hS.2.2 dX12_rules_76
