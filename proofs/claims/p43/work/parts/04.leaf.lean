def F10_div (p1 : Int64) (p2 : Int64) : Int64 := (if (0 : Int64) < p2 then (if (0 : Int64) ≤ (p1 - p1 / p2 * p2) then (p1 / p2) else ((p1 / p2) - (1 : Int64))) else (0 : Int64))
set_option maxHeartbeats 4000000 in
set_option maxRecDepth 100000 in
theorem m10_div (l : Launch) (D : va_G) (cI cL cP : ClassId) (p1 : Int64) (p2 : Int64) (H0 : Heap) : Met l yX10_div wsX10_div ({ frames := 0, cells := 0, slots := 0, locals := 0 }) (va_Pc [.long p1, .long p2] (pR D cI cL cP H0 (wF []))) (va_Ql (fun (r : Int64) (_ : Unit) => r = F10_div p1 p2) (qE H0) nF) 0 0 nF := by
  refine Met.ofW (cc := cX10_div) (maxL := 6) (ret := (some .long)) (by decide) rfl ?_
  intro p e s m args below meth c s₁ B hml hv
  obtain ⟨rfl, rfl, hP, hQ⟩ := hv
  have hx := B.exec
  have hb := B.bytes
  have hr := B.returns
  have hts := atoms_spec (ws := wsX10_div) B.pre
  have hown : s.vm.findClass RX10 = some m.cls := findClass_of_methodNamed B.named
  have hlocks := B.notSynchronized
  have hS : va_S nF s.heap s.heap [] := va_S.rf
  have hl := lv_entry ([.long p1, .long p2]) (n := 6) (Nat.le_of_ble_eq_true rfl)
  rw [lg_entry_eq]
  generalize (lg_sl ([.long p1, .long p2]) ++ List.replicate (6 - (lg_sl ([.long p1, .long p2])).length) Slot.unset).toArray = ls at hl ⊢
  have hl : lv_has ls 6 [(0, .long p1), (2, .long p2)] := hl
  refine lv_lload_n hx hb dX10_div_0 rfl (lv_at hl 1 rfl) ?_
  refine lv_lconst (v := (0 : Int64)) hx hb dX10_div_1 rfl ?_
  refine w_lgt (tgt := 8) hx hb dX10_div_2 dX10_div_3 (by decide) (fun c1 => ?_) (fun c1 => ?_)
  · have c1 : (0 : Int64) < p2 := c1
    refine lv_lload_n hx hb dX10_div_8 rfl (lv_at hl 0 rfl) ?_
    refine lv_lload_n hx hb dX10_div_9 rfl (lv_at hl 1 rfl) ?_
    refine lv_ldiv hx hb dX10_div_10 (fun h9 => by rw [h9] at c1; exact absurd c1 (by decide)) ?_
    refine lv_lstore (lv' := [(4, .long (p1 / p2)), (0, .long p1), (2, .long p2)]) hx hb dX10_div_11 hl (by decide) rfl (fun ls hl => ?_)
    refine lv_lload_n hx hb dX10_div_13 rfl (lv_at hl 1 rfl) ?_
    refine lv_lload_n hx hb dX10_div_14 rfl (lv_at hl 2 rfl) ?_
    refine lv_lrem hx hb dX10_div_15 (fun h9 => by rw [h9] at c1; exact absurd c1 (by decide)) ?_
    refine lv_lconst (v := (0 : Int64)) hx hb dX10_div_16 rfl ?_
    refine w_diaL (rest := []) (K := (0 : Int64) ≤ (p1 - p1 / p2 * p2)) 30 (p1 / p2) ((p1 / p2) - (1 : Int64)) (fun kt kf => ?_) ?_
    · refine w_lge (tgt := 28) hx hb dX10_div_17 dX10_div_18 (by decide) (fun c2 => ?_) (fun c2 => ?_)
      · have c2 : (0 : Int64) ≤ (p1 - p1 / p2 * p2) := c2
        refine lv_lload hx hb dX10_div_28 (lv_at hl 0 rfl) ?_
        exact kt c2
      · have c2 : ¬ ((0 : Int64) ≤ (p1 - p1 / p2 * p2)) := c2
        refine lv_lload hx hb dX10_div_21 (lv_at hl 0 rfl) ?_
        refine lv_lconst (v := (1 : Int64)) hx hb dX10_div_23 rfl ?_
        refine lv_lsub hx hb dX10_div_24 ?_
        refine lv_goto (tgt := 30) hx hb dX10_div_25 (by decide) ?_
        exact kf c2
    exact W.lret (v := (if (0 : Int64) ≤ (p1 - p1 / p2 * p2) then (p1 / p2) else ((p1 / p2) - (1 : Int64)))) hx hb hr (fun t ht hW => ⟨⟨(if (0 : Int64) ≤ (p1 - p1 / p2 * p2) then (p1 / p2) else ((p1 / p2) - (1 : Int64))), (), rfl, ((Eq.trans (if_pos c1) (rfl)).symm), ht⟩, hS.F ht⟩) hS.2.2 dX10_div_30
  · have c1 : ¬ ((0 : Int64) < p2) := c1
    refine lv_lconst (v := (0 : Int64)) hx hb dX10_div_6 rfl ?_
    exact W.lret (v := (0 : Int64)) hx hb hr (fun t ht hW => ⟨⟨(0 : Int64), (), rfl, ((Eq.trans (if_neg c1) (rfl)).symm), ht⟩, hS.F ht⟩) hS.2.2 dX10_div_7
def F10_elementOr (n : Nat) (x0 : SS) (p2 : Int32) (p3 : Int32) : Int32 := (if p2 < (0 : Int32) then p3 else (if (nI n) ≤ p2 then p3 else (x0 p2.toNatClampNeg)))
set_option maxHeartbeats 4000000 in
set_option maxRecDepth 100000 in
theorem m10_elementOr (l : Launch) (D : va_G) (cI cL cP : ClassId) (b0 : Nat) (n : Nat) (x0 : SS) (p2 : Int32) (p3 : Int32) (hn : n < 2 ^ 31) (H0 : Heap) : Met l yX10_elementOr wsX10_elementOr ({ frames := 0, cells := 0, slots := 0, locals := 0 }) (va_Pc [.ref b0, .int p2, .int p3] (pR D cI cL cP H0 (wF [gI cI b0 n x0]))) (va_Qi (fun (r : Int32) (_ : Unit) => r = F10_elementOr n x0 p2 p3) (qE H0) nF) 0 0 nF := by
  refine Met.ofW (cc := cX10_elementOr) (maxL := 3) (ret := (some .int)) (by decide) rfl ?_
  intro p e s m args below meth c s₁ B hml hv
  obtain ⟨rfl, rfl, hP, hQ⟩ := hv
  have hx := B.exec
  have hb := B.bytes
  have hr := B.returns
  have hts := atoms_spec (ws := wsX10_elementOr) B.pre
  have hown : s.vm.findClass RX10 = some m.cls := findClass_of_methodNamed B.named
  have hlocks := B.notSynchronized
  have hS : va_S nF s.heap s.heap [] := va_S.rf
  have hl := lv_entry ([.ref b0, .int p2, .int p3]) (n := 3) (Nat.le_of_ble_eq_true rfl)
  rw [lg_entry_eq]
  generalize (lg_sl ([.ref b0, .int p2, .int p3]) ++ List.replicate (3 - (lg_sl ([.ref b0, .int p2, .int p3])).length) Slot.unset).toArray = ls at hl ⊢
  have hl : lv_has ls 3 [(0, .ref b0), (1, .int p2), (2, .int p3)] := hl
  refine lv_iload_n hx hb dX10_elementOr_0 rfl (lv_at hl 1 rfl) ?_
  refine lv_if_lt (tgt := 16) hx hb dX10_elementOr_1 (by decide) (fun c1 => ?_) (fun c1 => ?_)
  · have c1 : p2 < (0 : Int32) := c1
    refine lv_iload_n hx hb dX10_elementOr_16 rfl (lv_at hl 2 rfl) ?_
    exact W.iret (v := p3) hx hb hr (fun t ht hW => ⟨⟨p3, (), rfl, ((Eq.trans (if_pos c1) (rfl)).symm), ht⟩, hS.F ht⟩) hS.2.2 dX10_elementOr_17
  · have c1 : ¬ (p2 < (0 : Int32)) := c1
    refine lv_iload_n hx hb dX10_elementOr_4 rfl (lv_at hl 1 rfl) ?_
    refine lv_aload_n hx hb dX10_elementOr_5 rfl (lv_at hl 0 rfl) ?_
    refine va_alen (v := (nI n)) hx hb hQ.1 hP 0 0 rfl rfl rfl dX10_elementOr_6 ?_
    refine lv_icmp_ge (tgt := 16) hx hb dX10_elementOr_7 (by decide) (fun c2 => ?_) (fun c2 => ?_)
    · have c2 : (nI n) ≤ p2 := c2
      refine lv_iload_n hx hb dX10_elementOr_16 rfl (lv_at hl 2 rfl) ?_
      exact W.iret (v := p3) hx hb hr (fun t ht hW => ⟨⟨p3, (), rfl, ((Eq.trans (if_neg c1) (Eq.trans (if_pos c2) (rfl))).symm), ht⟩, hS.F ht⟩) hS.2.2 dX10_elementOr_17
    · have c2 : ¬ ((nI n) ≤ p2) := c2
      refine lv_aload_n hx hb dX10_elementOr_10 rfl (lv_at hl 0 rfl) ?_
      refine lv_iload_n hx hb dX10_elementOr_11 rfl (lv_at hl 1 rfl) ?_
      refine va_iald (f := x0) hx hb hQ.1 hP 0 0 rfl rfl (w_inx hn c1 c2) dX10_elementOr_12 ?_
      refine lv_goto (tgt := 17) hx hb dX10_elementOr_13 (by decide) ?_
      exact W.iret (v := (x0 p2.toNatClampNeg)) hx hb hr (fun t ht hW => ⟨⟨(x0 p2.toNatClampNeg), (), rfl, ((Eq.trans (if_neg c1) (Eq.trans (if_neg c2) (rfl))).symm), ht⟩, hS.F ht⟩) hS.2.2 dX10_elementOr_17
def F10_replace (n : Nat) (x0 : SS) (p2 : Int32) (p3 : Int32) : SS := (if p2 < (0 : Int32) then x0 else (if (nI n) ≤ p2 then x0 else (upd x0 p2.toNatClampNeg p3)))
set_option maxHeartbeats 4000000 in
set_option maxRecDepth 100000 in
theorem m10_replace (l : Launch) (D : va_G) (cI cL cP : ClassId) (b0 : Nat) (n : Nat) (x0 : SS) (p2 : Int32) (p3 : Int32) (hn : n < 2 ^ 31) (sz : Nat) : Met l yX10_replace wsX10_replace ({ frames := 0, cells := 0, slots := 0, locals := 0 }) (va_Pc [.ref b0, .int p2, .int p3] (pM D cI cL cP sz (wF [gI cI b0 n x0]))) (va_Qv (fun (w : SS) => w = F10_replace n x0 p2 p3) (qW D (va_A (wF [gI cI b0 n x0]) sz) (fun w : SS => (wF [gI cI b0 n w]))) (va_A (wF [gI cI b0 n x0]) sz)) 0 0 (va_A (wF [gI cI b0 n x0]) sz) := by
  refine Met.ofW (cc := cX10_replace) (maxL := 3) (ret := none) (by decide) rfl ?_
  intro p e s m args below meth c s₁ B hml hv
  obtain ⟨rfl, hsz, hP, hQ, hD0⟩ := hv
  have hx := B.exec
  have hb := B.bytes
  have hr := B.returns
  have hts := atoms_spec (ws := wsX10_replace) B.pre
  have hown : s.vm.findClass RX10 = some m.cls := findClass_of_methodNamed B.named
  have hlocks := B.notSynchronized
  subst hsz
  have hD := hD0.self (sz := s.heap.size)
  generalize hAe : va_A (wF [gI cI b0 n x0]) s.heap.size = A at hD ⊢
  have hA : ∀ q : Nat, s.heap.size ≤ q → A q := fun q h => by rw [← hAe]; exact Or.inr h
  have hS : va_S A s.heap s.heap [] := va_S.rf
  have hP : va_P D vwCl (wF [gI cI b0 n x0]) s.heap := hP
  have hl := lv_entry ([.ref b0, .int p2, .int p3]) (n := 3) (Nat.le_of_ble_eq_true rfl)
  rw [lg_entry_eq]
  generalize (lg_sl ([.ref b0, .int p2, .int p3]) ++ List.replicate (3 - (lg_sl ([.ref b0, .int p2, .int p3])).length) Slot.unset).toArray = ls at hl ⊢
  have hl : lv_has ls 3 [(0, .ref b0), (1, .int p2), (2, .int p3)] := hl
  refine lv_iload_n hx hb dX10_replace_0 rfl (lv_at hl 1 rfl) ?_
  refine lv_if_lt (tgt := 14) hx hb dX10_replace_1 (by decide) (fun c1 => ?_) (fun c1 => ?_)
  · have c1 : p2 < (0 : Int32) := c1
    exact W.vret hx hb hr (fun t ht hW => ⟨⟨x0, rfl, ((Eq.trans (if_pos c1) (rfl)).symm), by rw [ht]; exact hP, hD⟩, hS.F ht⟩) hS.2.2 dX10_replace_14
  · have c1 : ¬ (p2 < (0 : Int32)) := c1
    refine lv_iload_n hx hb dX10_replace_4 rfl (lv_at hl 1 rfl) ?_
    refine lv_aload_n hx hb dX10_replace_5 rfl (lv_at hl 0 rfl) ?_
    refine va_alen (v := (nI n)) hx hb hQ.1 hP 0 0 rfl rfl rfl dX10_replace_6 ?_
    refine lv_icmp_ge (tgt := 14) hx hb dX10_replace_7 (by decide) (fun c2 => ?_) (fun c2 => ?_)
    · have c2 : (nI n) ≤ p2 := c2
      exact W.vret hx hb hr (fun t ht hW => ⟨⟨x0, rfl, ((Eq.trans (if_neg c1) (Eq.trans (if_pos c2) (rfl))).symm), by rw [ht]; exact hP, hD⟩, hS.F ht⟩) hS.2.2 dX10_replace_14
    · have c2 : ¬ ((nI n) ≤ p2) := c2
      refine lv_aload_n hx hb dX10_replace_10 rfl (lv_at hl 0 rfl) ?_
      refine lv_iload_n hx hb dX10_replace_11 rfl (lv_at hl 1 rfl) ?_
      refine lv_iload_n hx hb dX10_replace_12 rfl (lv_at hl 2 rfl) ?_
      refine va_iast (f := x0) hx hb hQ.1 hP hD hS 0 0 rfl rfl (w_inx hn c1 c2) dX10_replace_13 (fun H locs hP hD hS => ?_)
      have hP : va_P D vwCl (wF [gI cI b0 n (upd x0 p2.toNatClampNeg p3)]) H := hP
      have hD : va_D A (wF [gI cI b0 n (upd x0 p2.toNatClampNeg p3)]) := hD
      exact W.vret hx hb hr (fun t ht hW => ⟨⟨(upd x0 p2.toNatClampNeg p3), rfl, ((Eq.trans (if_neg c1) (Eq.trans (if_neg c2) (rfl))).symm), by rw [ht]; exact hP, hD⟩, hS.F ht⟩) hS.2.2 dX10_replace_14
def F10_mixed (p1 : Int64) (p2 : Int64) : Int64 := (((31 : Int64) * p1) + p2)
set_option maxHeartbeats 4000000 in
set_option maxRecDepth 100000 in
theorem m10_mixed (l : Launch) (D : va_G) (cI cL cP : ClassId) (p1 : Int64) (p2 : Int64) (H0 : Heap) : Met l yX10_mixed wsX10_mixed ({ frames := 0, cells := 0, slots := 0, locals := 0 }) (va_Pc [.long p1, .long p2] (pR D cI cL cP H0 (wF []))) (va_Ql (fun (r : Int64) (_ : Unit) => r = F10_mixed p1 p2) (qE H0) nF) 0 0 nF := by
  refine Met.ofW (cc := cX10_mixed) (maxL := 4) (ret := (some .long)) (by decide) rfl ?_
  intro p e s m args below meth c s₁ B hml hv
  obtain ⟨rfl, rfl, hP, hQ⟩ := hv
  have hx := B.exec
  have hb := B.bytes
  have hr := B.returns
  have hts := atoms_spec (ws := wsX10_mixed) B.pre
  have hown : s.vm.findClass RX10 = some m.cls := findClass_of_methodNamed B.named
  have hlocks := B.notSynchronized
  have hS : va_S nF s.heap s.heap [] := va_S.rf
  have hl := lv_entry ([.long p1, .long p2]) (n := 4) (Nat.le_of_ble_eq_true rfl)
  rw [lg_entry_eq]
  generalize (lg_sl ([.long p1, .long p2]) ++ List.replicate (4 - (lg_sl ([.long p1, .long p2])).length) Slot.unset).toArray = ls at hl ⊢
  have hl : lv_has ls 4 [(0, .long p1), (2, .long p2)] := hl
  refine lv_ldc2 (own := RX10) (index := 317) (v := (31 : Int64)) hx hb hown (hts (.constantLong RX10 317 (31)) (List.mem_of_getElem? (i := 1) rfl)) dX10_mixed_0 ?_
  refine lv_lload_n hx hb dX10_mixed_3 rfl (lv_at hl 0 rfl) ?_
  refine lv_lmul hx hb dX10_mixed_4 ?_
  refine lv_lload_n hx hb dX10_mixed_5 rfl (lv_at hl 1 rfl) ?_
  refine lv_ladd hx hb dX10_mixed_6 ?_
  exact W.lret (v := (((31 : Int64) * p1) + p2)) hx hb hr (fun t ht hW => ⟨⟨(((31 : Int64) * p1) + p2), (), rfl, ((rfl).symm), ht⟩, hS.F ht⟩) hS.2.2 dX10_mixed_7
def F1_isCapacity (p1 : Int32) : Bool := (if p1 < (100 : Int32) then false else (if (5000 : Int32) < p1 then false else true))
set_option maxHeartbeats 4000000 in
set_option maxRecDepth 100000 in
theorem m1_isCapacity (l : Launch) (D : va_G) (cI cL cP : ClassId) (p1 : Int32) (H0 : Heap) : Met l yX1_isCapacity wsX1_isCapacity ({ frames := 0, cells := 0, slots := 0, locals := 0 }) (va_Pc [.int p1] (pR D cI cL cP H0 (wF []))) (va_Qi (fun (r : Int32) (_ : Unit) => r = bI (F1_isCapacity p1)) (qE H0) nF) 0 0 nF := by
  refine Met.ofW (cc := cX1_isCapacity) (maxL := 1) (ret := (some .boolean)) (by decide) rfl ?_
  intro p e s m args below meth c s₁ B hml hv
  obtain ⟨rfl, rfl, hP, hQ⟩ := hv
  have hx := B.exec
  have hb := B.bytes
  have hr := B.returns
  have hts := atoms_spec (ws := wsX1_isCapacity) B.pre
  have hown : s.vm.findClass RX1 = some m.cls := findClass_of_methodNamed B.named
  have hlocks := B.notSynchronized
  have hS : va_S nF s.heap s.heap [] := va_S.rf
  have hl := lv_entry ([.int p1]) (n := 1) (Nat.le_of_ble_eq_true rfl)
  rw [lg_entry_eq]
  generalize (lg_sl ([.int p1]) ++ List.replicate (1 - (lg_sl ([.int p1])).length) Slot.unset).toArray = ls at hl ⊢
  have hl : lv_has ls 1 [(0, .int p1)] := hl
  refine lv_iload_n hx hb dX1_isCapacity_0 rfl (lv_at hl 0 rfl) ?_
  refine lv_bipush (v := (100 : Int32)) hx hb dX1_isCapacity_1 (by decide) ?_
  refine lv_icmp_lt (tgt := 17) hx hb dX1_isCapacity_3 (by decide) (fun c1 => ?_) (fun c1 => ?_)
  · have c1 : p1 < (100 : Int32) := c1
    refine lv_iconst (v := (0 : Int32)) hx hb dX1_isCapacity_17 (by decide) ?_
    exact W.zret (v := (0 : Int32)) (ty := .boolean) hx hb hr rfl (fun t ht hW => ⟨⟨(0 : Int32), (), rfl, ((congrArg bI (show F1_isCapacity p1 = false from Eq.trans (if_pos c1) (rfl))).symm), ht⟩, hS.F ht⟩) hS.2.2 dX1_isCapacity_18
  · have c1 : ¬ (p1 < (100 : Int32)) := c1
    refine lv_iload_n hx hb dX1_isCapacity_6 rfl (lv_at hl 0 rfl) ?_
    refine lv_sipush (v := (5000 : Int32)) hx hb dX1_isCapacity_7 (by decide) ?_
    refine lv_icmp_gt (tgt := 17) hx hb dX1_isCapacity_10 (by decide) (fun c2 => ?_) (fun c2 => ?_)
    · have c2 : (5000 : Int32) < p1 := c2
      refine lv_iconst (v := (0 : Int32)) hx hb dX1_isCapacity_17 (by decide) ?_
      exact W.zret (v := (0 : Int32)) (ty := .boolean) hx hb hr rfl (fun t ht hW => ⟨⟨(0 : Int32), (), rfl, ((congrArg bI (show F1_isCapacity p1 = false from Eq.trans (if_neg c1) (Eq.trans (if_pos c2) (rfl)))).symm), ht⟩, hS.F ht⟩) hS.2.2 dX1_isCapacity_18
    · have c2 : ¬ ((5000 : Int32) < p1) := c2
      refine lv_iconst (v := (1 : Int32)) hx hb dX1_isCapacity_13 (by decide) ?_
      refine lv_goto (tgt := 18) hx hb dX1_isCapacity_14 (by decide) ?_
      exact W.zret (v := (1 : Int32)) (ty := .boolean) hx hb hr rfl (fun t ht hW => ⟨⟨(1 : Int32), (), rfl, ((congrArg bI (show F1_isCapacity p1 = true from Eq.trans (if_neg c1) (Eq.trans (if_neg c2) (rfl)))).symm), ht⟩, hS.F ht⟩) hS.2.2 dX1_isCapacity_18
def F1_isFilling (p1 : Int32) : Bool := (if p1 < (0 : Int32) then false else (if (700 : Int32) < p1 then false else true))
set_option maxHeartbeats 4000000 in
set_option maxRecDepth 100000 in
theorem m1_isFilling (l : Launch) (D : va_G) (cI cL cP : ClassId) (p1 : Int32) (H0 : Heap) : Met l yX1_isFilling wsX1_isFilling ({ frames := 0, cells := 0, slots := 0, locals := 0 }) (va_Pc [.int p1] (pR D cI cL cP H0 (wF []))) (va_Qi (fun (r : Int32) (_ : Unit) => r = bI (F1_isFilling p1)) (qE H0) nF) 0 0 nF := by
  refine Met.ofW (cc := cX1_isFilling) (maxL := 1) (ret := (some .boolean)) (by decide) rfl ?_
  intro p e s m args below meth c s₁ B hml hv
  obtain ⟨rfl, rfl, hP, hQ⟩ := hv
  have hx := B.exec
  have hb := B.bytes
  have hr := B.returns
  have hts := atoms_spec (ws := wsX1_isFilling) B.pre
  have hown : s.vm.findClass RX1 = some m.cls := findClass_of_methodNamed B.named
  have hlocks := B.notSynchronized
  have hS : va_S nF s.heap s.heap [] := va_S.rf
  have hl := lv_entry ([.int p1]) (n := 1) (Nat.le_of_ble_eq_true rfl)
  rw [lg_entry_eq]
  generalize (lg_sl ([.int p1]) ++ List.replicate (1 - (lg_sl ([.int p1])).length) Slot.unset).toArray = ls at hl ⊢
  have hl : lv_has ls 1 [(0, .int p1)] := hl
  refine lv_iload_n hx hb dX1_isFilling_0 rfl (lv_at hl 0 rfl) ?_
  refine lv_if_lt (tgt := 15) hx hb dX1_isFilling_1 (by decide) (fun c1 => ?_) (fun c1 => ?_)
  · have c1 : p1 < (0 : Int32) := c1
    refine lv_iconst (v := (0 : Int32)) hx hb dX1_isFilling_15 (by decide) ?_
    exact W.zret (v := (0 : Int32)) (ty := .boolean) hx hb hr rfl (fun t ht hW => ⟨⟨(0 : Int32), (), rfl, ((congrArg bI (show F1_isFilling p1 = false from Eq.trans (if_pos c1) (rfl))).symm), ht⟩, hS.F ht⟩) hS.2.2 dX1_isFilling_16
  · have c1 : ¬ (p1 < (0 : Int32)) := c1
    refine lv_iload_n hx hb dX1_isFilling_4 rfl (lv_at hl 0 rfl) ?_
    refine lv_sipush (v := (700 : Int32)) hx hb dX1_isFilling_5 (by decide) ?_
    refine lv_icmp_gt (tgt := 15) hx hb dX1_isFilling_8 (by decide) (fun c2 => ?_) (fun c2 => ?_)
    · have c2 : (700 : Int32) < p1 := c2
      refine lv_iconst (v := (0 : Int32)) hx hb dX1_isFilling_15 (by decide) ?_
      exact W.zret (v := (0 : Int32)) (ty := .boolean) hx hb hr rfl (fun t ht hW => ⟨⟨(0 : Int32), (), rfl, ((congrArg bI (show F1_isFilling p1 = false from Eq.trans (if_neg c1) (Eq.trans (if_pos c2) (rfl)))).symm), ht⟩, hS.F ht⟩) hS.2.2 dX1_isFilling_16
    · have c2 : ¬ ((700 : Int32) < p1) := c2
      refine lv_iconst (v := (1 : Int32)) hx hb dX1_isFilling_11 (by decide) ?_
      refine lv_goto (tgt := 16) hx hb dX1_isFilling_12 (by decide) ?_
      exact W.zret (v := (1 : Int32)) (ty := .boolean) hx hb hr rfl (fun t ht hW => ⟨⟨(1 : Int32), (), rfl, ((congrArg bI (show F1_isFilling p1 = true from Eq.trans (if_neg c1) (Eq.trans (if_neg c2) (rfl)))).symm), ht⟩, hS.F ht⟩) hS.2.2 dX1_isFilling_16
def F3_isSupply (p1 : Int32) : Bool := (if p1 < (150 : Int32) then false else (if (600 : Int32) < p1 then false else true))
set_option maxHeartbeats 4000000 in
set_option maxRecDepth 100000 in
theorem m3_isSupply (l : Launch) (D : va_G) (cI cL cP : ClassId) (p1 : Int32) (H0 : Heap) : Met l yX3_isSupply wsX3_isSupply ({ frames := 0, cells := 0, slots := 0, locals := 0 }) (va_Pc [.int p1] (pR D cI cL cP H0 (wF []))) (va_Qi (fun (r : Int32) (_ : Unit) => r = bI (F3_isSupply p1)) (qE H0) nF) 0 0 nF := by
  refine Met.ofW (cc := cX3_isSupply) (maxL := 1) (ret := (some .boolean)) (by decide) rfl ?_
  intro p e s m args below meth c s₁ B hml hv
  obtain ⟨rfl, rfl, hP, hQ⟩ := hv
  have hx := B.exec
  have hb := B.bytes
  have hr := B.returns
  have hts := atoms_spec (ws := wsX3_isSupply) B.pre
  have hown : s.vm.findClass RX3 = some m.cls := findClass_of_methodNamed B.named
  have hlocks := B.notSynchronized
  have hS : va_S nF s.heap s.heap [] := va_S.rf
  have hl := lv_entry ([.int p1]) (n := 1) (Nat.le_of_ble_eq_true rfl)
  rw [lg_entry_eq]
  generalize (lg_sl ([.int p1]) ++ List.replicate (1 - (lg_sl ([.int p1])).length) Slot.unset).toArray = ls at hl ⊢
  have hl : lv_has ls 1 [(0, .int p1)] := hl
  refine lv_iload_n hx hb dX3_isSupply_0 rfl (lv_at hl 0 rfl) ?_
  refine lv_sipush (v := (150 : Int32)) hx hb dX3_isSupply_1 (by decide) ?_
  refine lv_icmp_lt (tgt := 18) hx hb dX3_isSupply_4 (by decide) (fun c1 => ?_) (fun c1 => ?_)
  · have c1 : p1 < (150 : Int32) := c1
    refine lv_iconst (v := (0 : Int32)) hx hb dX3_isSupply_18 (by decide) ?_
    exact W.zret (v := (0 : Int32)) (ty := .boolean) hx hb hr rfl (fun t ht hW => ⟨⟨(0 : Int32), (), rfl, ((congrArg bI (show F3_isSupply p1 = false from Eq.trans (if_pos c1) (rfl))).symm), ht⟩, hS.F ht⟩) hS.2.2 dX3_isSupply_19
  · have c1 : ¬ (p1 < (150 : Int32)) := c1
    refine lv_iload_n hx hb dX3_isSupply_7 rfl (lv_at hl 0 rfl) ?_
    refine lv_sipush (v := (600 : Int32)) hx hb dX3_isSupply_8 (by decide) ?_
    refine lv_icmp_gt (tgt := 18) hx hb dX3_isSupply_11 (by decide) (fun c2 => ?_) (fun c2 => ?_)
    · have c2 : (600 : Int32) < p1 := c2
      refine lv_iconst (v := (0 : Int32)) hx hb dX3_isSupply_18 (by decide) ?_
      exact W.zret (v := (0 : Int32)) (ty := .boolean) hx hb hr rfl (fun t ht hW => ⟨⟨(0 : Int32), (), rfl, ((congrArg bI (show F3_isSupply p1 = false from Eq.trans (if_neg c1) (Eq.trans (if_pos c2) (rfl)))).symm), ht⟩, hS.F ht⟩) hS.2.2 dX3_isSupply_19
    · have c2 : ¬ ((600 : Int32) < p1) := c2
      refine lv_iconst (v := (1 : Int32)) hx hb dX3_isSupply_14 (by decide) ?_
      refine lv_goto (tgt := 19) hx hb dX3_isSupply_15 (by decide) ?_
      exact W.zret (v := (1 : Int32)) (ty := .boolean) hx hb hr rfl (fun t ht hW => ⟨⟨(1 : Int32), (), rfl, ((congrArg bI (show F3_isSupply p1 = true from Eq.trans (if_neg c1) (Eq.trans (if_neg c2) (rfl)))).symm), ht⟩, hS.F ht⟩) hS.2.2 dX3_isSupply_19
def F8_isHour (p1 : Int32) : Bool := (if p1 < (0 : Int32) then false else (if (24 : Int32) ≤ p1 then false else true))
set_option maxHeartbeats 4000000 in
set_option maxRecDepth 100000 in
theorem m8_isHour (l : Launch) (D : va_G) (cI cL cP : ClassId) (p1 : Int32) (H0 : Heap) : Met l yX8_isHour wsX8_isHour ({ frames := 0, cells := 0, slots := 0, locals := 0 }) (va_Pc [.int p1] (pR D cI cL cP H0 (wF []))) (va_Qi (fun (r : Int32) (_ : Unit) => r = bI (F8_isHour p1)) (qE H0) nF) 0 0 nF := by
  refine Met.ofW (cc := cX8_isHour) (maxL := 1) (ret := (some .boolean)) (by decide) rfl ?_
  intro p e s m args below meth c s₁ B hml hv
  obtain ⟨rfl, rfl, hP, hQ⟩ := hv
  have hx := B.exec
  have hb := B.bytes
  have hr := B.returns
  have hts := atoms_spec (ws := wsX8_isHour) B.pre
  have hown : s.vm.findClass RX8 = some m.cls := findClass_of_methodNamed B.named
  have hlocks := B.notSynchronized
  have hS : va_S nF s.heap s.heap [] := va_S.rf
  have hl := lv_entry ([.int p1]) (n := 1) (Nat.le_of_ble_eq_true rfl)
  rw [lg_entry_eq]
  generalize (lg_sl ([.int p1]) ++ List.replicate (1 - (lg_sl ([.int p1])).length) Slot.unset).toArray = ls at hl ⊢
  have hl : lv_has ls 1 [(0, .int p1)] := hl
  refine lv_iload_n hx hb dX8_isHour_0 rfl (lv_at hl 0 rfl) ?_
  refine lv_if_lt (tgt := 14) hx hb dX8_isHour_1 (by decide) (fun c1 => ?_) (fun c1 => ?_)
  · have c1 : p1 < (0 : Int32) := c1
    refine lv_iconst (v := (0 : Int32)) hx hb dX8_isHour_14 (by decide) ?_
    exact W.zret (v := (0 : Int32)) (ty := .boolean) hx hb hr rfl (fun t ht hW => ⟨⟨(0 : Int32), (), rfl, ((congrArg bI (show F8_isHour p1 = false from Eq.trans (if_pos c1) (rfl))).symm), ht⟩, hS.F ht⟩) hS.2.2 dX8_isHour_15
  · have c1 : ¬ (p1 < (0 : Int32)) := c1
    refine lv_iload_n hx hb dX8_isHour_4 rfl (lv_at hl 0 rfl) ?_
    refine lv_bipush (v := (24 : Int32)) hx hb dX8_isHour_5 (by decide) ?_
    refine lv_icmp_ge (tgt := 14) hx hb dX8_isHour_7 (by decide) (fun c2 => ?_) (fun c2 => ?_)
    · have c2 : (24 : Int32) ≤ p1 := c2
      refine lv_iconst (v := (0 : Int32)) hx hb dX8_isHour_14 (by decide) ?_
      exact W.zret (v := (0 : Int32)) (ty := .boolean) hx hb hr rfl (fun t ht hW => ⟨⟨(0 : Int32), (), rfl, ((congrArg bI (show F8_isHour p1 = false from Eq.trans (if_neg c1) (Eq.trans (if_pos c2) (rfl)))).symm), ht⟩, hS.F ht⟩) hS.2.2 dX8_isHour_15
    · have c2 : ¬ ((24 : Int32) ≤ p1) := c2
      refine lv_iconst (v := (1 : Int32)) hx hb dX8_isHour_10 (by decide) ?_
      refine lv_goto (tgt := 15) hx hb dX8_isHour_11 (by decide) ?_
      exact W.zret (v := (1 : Int32)) (ty := .boolean) hx hb hr rfl (fun t ht hW => ⟨⟨(1 : Int32), (), rfl, ((congrArg bI (show F8_isHour p1 = true from Eq.trans (if_neg c1) (Eq.trans (if_neg c2) (rfl)))).symm), ht⟩, hS.F ht⟩) hS.2.2 dX8_isHour_15
def F8_isOutdoor (p1 : Int32) : Bool := (if p1 < (-300 : Int32) then false else (if (400 : Int32) < p1 then false else true))
set_option maxHeartbeats 4000000 in
set_option maxRecDepth 100000 in
theorem m8_isOutdoor (l : Launch) (D : va_G) (cI cL cP : ClassId) (p1 : Int32) (H0 : Heap) : Met l yX8_isOutdoor wsX8_isOutdoor ({ frames := 0, cells := 0, slots := 0, locals := 0 }) (va_Pc [.int p1] (pR D cI cL cP H0 (wF []))) (va_Qi (fun (r : Int32) (_ : Unit) => r = bI (F8_isOutdoor p1)) (qE H0) nF) 0 0 nF := by
  refine Met.ofW (cc := cX8_isOutdoor) (maxL := 1) (ret := (some .boolean)) (by decide) rfl ?_
  intro p e s m args below meth c s₁ B hml hv
  obtain ⟨rfl, rfl, hP, hQ⟩ := hv
  have hx := B.exec
  have hb := B.bytes
  have hr := B.returns
  have hts := atoms_spec (ws := wsX8_isOutdoor) B.pre
  have hown : s.vm.findClass RX8 = some m.cls := findClass_of_methodNamed B.named
  have hlocks := B.notSynchronized
  have hS : va_S nF s.heap s.heap [] := va_S.rf
  have hl := lv_entry ([.int p1]) (n := 1) (Nat.le_of_ble_eq_true rfl)
  rw [lg_entry_eq]
  generalize (lg_sl ([.int p1]) ++ List.replicate (1 - (lg_sl ([.int p1])).length) Slot.unset).toArray = ls at hl ⊢
  have hl : lv_has ls 1 [(0, .int p1)] := hl
  refine lv_iload_n hx hb dX8_isOutdoor_0 rfl (lv_at hl 0 rfl) ?_
  refine lv_sipush (v := (-300 : Int32)) hx hb dX8_isOutdoor_1 (by decide) ?_
  refine lv_icmp_lt (tgt := 18) hx hb dX8_isOutdoor_4 (by decide) (fun c1 => ?_) (fun c1 => ?_)
  · have c1 : p1 < (-300 : Int32) := c1
    refine lv_iconst (v := (0 : Int32)) hx hb dX8_isOutdoor_18 (by decide) ?_
    exact W.zret (v := (0 : Int32)) (ty := .boolean) hx hb hr rfl (fun t ht hW => ⟨⟨(0 : Int32), (), rfl, ((congrArg bI (show F8_isOutdoor p1 = false from Eq.trans (if_pos c1) (rfl))).symm), ht⟩, hS.F ht⟩) hS.2.2 dX8_isOutdoor_19
  · have c1 : ¬ (p1 < (-300 : Int32)) := c1
    refine lv_iload_n hx hb dX8_isOutdoor_7 rfl (lv_at hl 0 rfl) ?_
    refine lv_sipush (v := (400 : Int32)) hx hb dX8_isOutdoor_8 (by decide) ?_
    refine lv_icmp_gt (tgt := 18) hx hb dX8_isOutdoor_11 (by decide) (fun c2 => ?_) (fun c2 => ?_)
    · have c2 : (400 : Int32) < p1 := c2
      refine lv_iconst (v := (0 : Int32)) hx hb dX8_isOutdoor_18 (by decide) ?_
      exact W.zret (v := (0 : Int32)) (ty := .boolean) hx hb hr rfl (fun t ht hW => ⟨⟨(0 : Int32), (), rfl, ((congrArg bI (show F8_isOutdoor p1 = false from Eq.trans (if_neg c1) (Eq.trans (if_pos c2) (rfl)))).symm), ht⟩, hS.F ht⟩) hS.2.2 dX8_isOutdoor_19
    · have c2 : ¬ ((400 : Int32) < p1) := c2
      refine lv_iconst (v := (1 : Int32)) hx hb dX8_isOutdoor_14 (by decide) ?_
      refine lv_goto (tgt := 19) hx hb dX8_isOutdoor_15 (by decide) ?_
      exact W.zret (v := (1 : Int32)) (ty := .boolean) hx hb hr rfl (fun t ht hW => ⟨⟨(1 : Int32), (), rfl, ((congrArg bI (show F8_isOutdoor p1 = true from Eq.trans (if_neg c1) (Eq.trans (if_neg c2) (rfl)))).symm), ht⟩, hS.F ht⟩) hS.2.2 dX8_isOutdoor_19
def F8_isTariff (p1 : Int32) : Bool := (if p1 < (0 : Int32) then false else (if (3 : Int32) ≤ p1 then false else true))
set_option maxHeartbeats 4000000 in
set_option maxRecDepth 100000 in
theorem m8_isTariff (l : Launch) (D : va_G) (cI cL cP : ClassId) (p1 : Int32) (H0 : Heap) : Met l yX8_isTariff wsX8_isTariff ({ frames := 0, cells := 0, slots := 0, locals := 0 }) (va_Pc [.int p1] (pR D cI cL cP H0 (wF []))) (va_Qi (fun (r : Int32) (_ : Unit) => r = bI (F8_isTariff p1)) (qE H0) nF) 0 0 nF := by
  refine Met.ofW (cc := cX8_isTariff) (maxL := 1) (ret := (some .boolean)) (by decide) rfl ?_
  intro p e s m args below meth c s₁ B hml hv
  obtain ⟨rfl, rfl, hP, hQ⟩ := hv
  have hx := B.exec
  have hb := B.bytes
  have hr := B.returns
  have hts := atoms_spec (ws := wsX8_isTariff) B.pre
  have hown : s.vm.findClass RX8 = some m.cls := findClass_of_methodNamed B.named
  have hlocks := B.notSynchronized
  have hS : va_S nF s.heap s.heap [] := va_S.rf
  have hl := lv_entry ([.int p1]) (n := 1) (Nat.le_of_ble_eq_true rfl)
  rw [lg_entry_eq]
  generalize (lg_sl ([.int p1]) ++ List.replicate (1 - (lg_sl ([.int p1])).length) Slot.unset).toArray = ls at hl ⊢
  have hl : lv_has ls 1 [(0, .int p1)] := hl
  refine lv_iload_n hx hb dX8_isTariff_0 rfl (lv_at hl 0 rfl) ?_
  refine lv_if_lt (tgt := 13) hx hb dX8_isTariff_1 (by decide) (fun c1 => ?_) (fun c1 => ?_)
  · have c1 : p1 < (0 : Int32) := c1
    refine lv_iconst (v := (0 : Int32)) hx hb dX8_isTariff_13 (by decide) ?_
    exact W.zret (v := (0 : Int32)) (ty := .boolean) hx hb hr rfl (fun t ht hW => ⟨⟨(0 : Int32), (), rfl, ((congrArg bI (show F8_isTariff p1 = false from Eq.trans (if_pos c1) (rfl))).symm), ht⟩, hS.F ht⟩) hS.2.2 dX8_isTariff_14
  · have c1 : ¬ (p1 < (0 : Int32)) := c1
    refine lv_iload_n hx hb dX8_isTariff_4 rfl (lv_at hl 0 rfl) ?_
    refine lv_iconst (v := (3 : Int32)) hx hb dX8_isTariff_5 (by decide) ?_
    refine lv_icmp_ge (tgt := 13) hx hb dX8_isTariff_6 (by decide) (fun c2 => ?_) (fun c2 => ?_)
    · have c2 : (3 : Int32) ≤ p1 := c2
      refine lv_iconst (v := (0 : Int32)) hx hb dX8_isTariff_13 (by decide) ?_
      exact W.zret (v := (0 : Int32)) (ty := .boolean) hx hb hr rfl (fun t ht hW => ⟨⟨(0 : Int32), (), rfl, ((congrArg bI (show F8_isTariff p1 = false from Eq.trans (if_neg c1) (Eq.trans (if_pos c2) (rfl)))).symm), ht⟩, hS.F ht⟩) hS.2.2 dX8_isTariff_14
    · have c2 : ¬ ((3 : Int32) ≤ p1) := c2
      refine lv_iconst (v := (1 : Int32)) hx hb dX8_isTariff_9 (by decide) ?_
      refine lv_goto (tgt := 14) hx hb dX8_isTariff_10 (by decide) ?_
      exact W.zret (v := (1 : Int32)) (ty := .boolean) hx hb hr rfl (fun t ht hW => ⟨⟨(1 : Int32), (), rfl, ((congrArg bI (show F8_isTariff p1 = true from Eq.trans (if_neg c1) (Eq.trans (if_neg c2) (rfl)))).symm), ht⟩, hS.F ht⟩) hS.2.2 dX8_isTariff_14
def F8_isPrice (p1 : Int32) : Bool := (if p1 < (0 : Int32) then false else (if (1000 : Int32) < p1 then false else true))
set_option maxHeartbeats 4000000 in
set_option maxRecDepth 100000 in
theorem m8_isPrice (l : Launch) (D : va_G) (cI cL cP : ClassId) (p1 : Int32) (H0 : Heap) : Met l yX8_isPrice wsX8_isPrice ({ frames := 0, cells := 0, slots := 0, locals := 0 }) (va_Pc [.int p1] (pR D cI cL cP H0 (wF []))) (va_Qi (fun (r : Int32) (_ : Unit) => r = bI (F8_isPrice p1)) (qE H0) nF) 0 0 nF := by
  refine Met.ofW (cc := cX8_isPrice) (maxL := 1) (ret := (some .boolean)) (by decide) rfl ?_
  intro p e s m args below meth c s₁ B hml hv
  obtain ⟨rfl, rfl, hP, hQ⟩ := hv
  have hx := B.exec
  have hb := B.bytes
  have hr := B.returns
  have hts := atoms_spec (ws := wsX8_isPrice) B.pre
  have hown : s.vm.findClass RX8 = some m.cls := findClass_of_methodNamed B.named
  have hlocks := B.notSynchronized
  have hS : va_S nF s.heap s.heap [] := va_S.rf
  have hl := lv_entry ([.int p1]) (n := 1) (Nat.le_of_ble_eq_true rfl)
  rw [lg_entry_eq]
  generalize (lg_sl ([.int p1]) ++ List.replicate (1 - (lg_sl ([.int p1])).length) Slot.unset).toArray = ls at hl ⊢
  have hl : lv_has ls 1 [(0, .int p1)] := hl
  refine lv_iload_n hx hb dX8_isPrice_0 rfl (lv_at hl 0 rfl) ?_
  refine lv_if_lt (tgt := 15) hx hb dX8_isPrice_1 (by decide) (fun c1 => ?_) (fun c1 => ?_)
  · have c1 : p1 < (0 : Int32) := c1
    refine lv_iconst (v := (0 : Int32)) hx hb dX8_isPrice_15 (by decide) ?_
    exact W.zret (v := (0 : Int32)) (ty := .boolean) hx hb hr rfl (fun t ht hW => ⟨⟨(0 : Int32), (), rfl, ((congrArg bI (show F8_isPrice p1 = false from Eq.trans (if_pos c1) (rfl))).symm), ht⟩, hS.F ht⟩) hS.2.2 dX8_isPrice_16
  · have c1 : ¬ (p1 < (0 : Int32)) := c1
    refine lv_iload_n hx hb dX8_isPrice_4 rfl (lv_at hl 0 rfl) ?_
    refine lv_sipush (v := (1000 : Int32)) hx hb dX8_isPrice_5 (by decide) ?_
    refine lv_icmp_gt (tgt := 15) hx hb dX8_isPrice_8 (by decide) (fun c2 => ?_) (fun c2 => ?_)
    · have c2 : (1000 : Int32) < p1 := c2
      refine lv_iconst (v := (0 : Int32)) hx hb dX8_isPrice_15 (by decide) ?_
      exact W.zret (v := (0 : Int32)) (ty := .boolean) hx hb hr rfl (fun t ht hW => ⟨⟨(0 : Int32), (), rfl, ((congrArg bI (show F8_isPrice p1 = false from Eq.trans (if_neg c1) (Eq.trans (if_pos c2) (rfl)))).symm), ht⟩, hS.F ht⟩) hS.2.2 dX8_isPrice_16
    · have c2 : ¬ ((1000 : Int32) < p1) := c2
      refine lv_iconst (v := (1 : Int32)) hx hb dX8_isPrice_11 (by decide) ?_
      refine lv_goto (tgt := 16) hx hb dX8_isPrice_12 (by decide) ?_
      exact W.zret (v := (1 : Int32)) (ty := .boolean) hx hb hr rfl (fun t ht hW => ⟨⟨(1 : Int32), (), rfl, ((congrArg bI (show F8_isPrice p1 = true from Eq.trans (if_neg c1) (Eq.trans (if_neg c2) (rfl)))).symm), ht⟩, hS.F ht⟩) hS.2.2 dX8_isPrice_16
def F7_valueOf (x0 : SS) (p1 : Int32) : Int32 := (F10_elementOr 17 x0 p1 (0 : Int32))
set_option maxHeartbeats 4000000 in
set_option maxRecDepth 100000 in
theorem m7_valueOf (l : Launch) (D : va_G) (cI cL cP : ClassId) (b0 : Nat) (b1 : Nat) (x0 : SS) (p1 : Int32) (H0 : Heap) : Met l yX7_valueOf wsX7_valueOf ({ frames := 1, cells := 0, slots := 0, locals := 22 }) (va_Pc [.ref b0, .int p1] (pR D cI cL cP H0 (wF [gS cI b0 b1 x0]))) (va_Qi (fun (r : Int32) (_ : Unit) => r = F7_valueOf x0 p1) (qE H0) nF) 0 0 nF := by
  refine Met.ofW (cc := cX7_valueOf) (maxL := 2) (ret := (some .int)) (by decide) rfl ?_
  intro p e s m args below meth c s₁ B hml hv
  obtain ⟨rfl, rfl, hP, hQ⟩ := hv
  have hx := B.exec
  have hb := B.bytes
  have hr := B.returns
  have hts := atoms_spec (ws := wsX7_valueOf) B.pre
  have hown : s.vm.findClass RX7 = some m.cls := findClass_of_methodNamed B.named
  have hlocks := B.notSynchronized
  have hS : va_S nF s.heap s.heap [] := va_S.rf
  have hl := lv_entry ([.ref b0, .int p1]) (n := 2) (Nat.le_of_ble_eq_true rfl)
  rw [lg_entry_eq]
  generalize (lg_sl ([.ref b0, .int p1]) ++ List.replicate (2 - (lg_sl ([.ref b0, .int p1])).length) Slot.unset).toArray = ls at hl ⊢
  have hl : lv_has ls 2 [(0, .ref b0), (1, .int p1)] := hl
  have hinX7 : ∀ w ∈ wsX70, w ∈ wsX7_valueOf := fun _ h => List.mem_cons_of_mem _ (List.mem_append_right _ h)
  refine lv_aload_n hx hb dX7_valueOf_0 rfl (lv_at hl 0 rfl) ?_
  refine va_get (D := D) (ci := 7) (v := .ref b1) (C := RX7) (T := TX7) (N := 1) hx hb hts hinX7 hown hQ.1 hP 0 rfl rfl 0 (by decide) (hts (.fieldLink RX7 9 "HeatPumpPlant$Settings" "values" "[I") (List.mem_of_getElem? (i := 1) rfl)) (fun _ h9 => h9) rfl dX7_valueOf_1 ?_
  refine lv_iload_n hx hb dX7_valueOf_4 rfl (lv_at hl 1 rfl) ?_
  refine lv_iconst (v := (0 : Int32)) hx hb dX7_valueOf_5 (by decide) ?_
  have hPc : va_P D vwCl (wF [gI cI b1 17 x0]) s.heap := hP.sub [1] rfl
  refine c_Ri (va_runSN (As := [.ref b1, .int p1, .int (0 : Int32)]) (rest := []) ⟨hx, hb, hml, hown, hts⟩ (m10_elementOr l D cI cL cP b1 17 x0 p1 (0 : Int32) (by decide) s.heap) ⟨va_cnB 3 hts gX7_valueOf_X10_elementOr_n22 rfl rfl rfl (hQ.2 (RX7, 22, yX10_elementOr, "HeatPumpPlant") (List.mem_of_getElem? (i := 10) rfl)) (hts (.initialized RX10) (List.mem_of_getElem? (i := 3) rfl)) (by decide +kernel) ⟨Nat.le_of_ble_eq_true rfl, Nat.le_of_ble_eq_true rfl⟩, (hts (.static yX10_elementOr) (List.mem_of_getElem? (i := 2) rfl)), trivial⟩ (preR_S hQ hPc) rfl rfl hl.1 rfl (lv_room (Nat.le_of_ble_eq_true rfl)) dX7_valueOf_6 ⟨Nat.le_of_ble_eq_true rfl, Nat.le_of_ble_eq_true rfl⟩) hS (fun locs hS => ?_)
  exact W.iret (v := (F10_elementOr 17 x0 p1 (0 : Int32))) hx hb hr (fun t ht hW => ⟨⟨(F10_elementOr 17 x0 p1 (0 : Int32)), (), rfl, ((rfl).symm), ht⟩, hS.F ht⟩) hS.2.2 dX7_valueOf_9
def K7_change_1 (x0 : SS) (p1 : Int32) (p2 : Int32) (z1 : SS) : SS := z1
def F7_change (x0 : SS) (p1 : Int32) (p2 : Int32) : SS := (K7_change_1 x0 p1 p2 (F10_replace 17 x0 p1 p2))
set_option maxHeartbeats 4000000 in
set_option maxRecDepth 100000 in
theorem m7_change (l : Launch) (D : va_G) (cI cL cP : ClassId) (b0 : Nat) (b1 : Nat) (x0 : SS) (p1 : Int32) (p2 : Int32) (sz : Nat) : Met l yX7_change wsX7_change ({ frames := 1, cells := 0, slots := 0, locals := 22 }) (va_Pc [.ref b0, .int p1, .int p2] (pM D cI cL cP sz (wF [gS cI b0 b1 x0]))) (va_Qv (fun (w : SS) => w = F7_change x0 p1 p2) (qW D (va_A (wF [gS cI b0 b1 x0]) sz) (fun w : SS => (wF [gS cI b0 b1 w]))) (va_A (wF [gS cI b0 b1 x0]) sz)) 0 0 (va_A (wF [gS cI b0 b1 x0]) sz) := by
  refine Met.ofW (cc := cX7_change) (maxL := 3) (ret := none) (by decide) rfl ?_
  intro p e s m args below meth c s₁ B hml hv
  obtain ⟨rfl, hsz, hP, hQ, hD0⟩ := hv
  have hx := B.exec
  have hb := B.bytes
  have hr := B.returns
  have hts := atoms_spec (ws := wsX7_change) B.pre
  have hown : s.vm.findClass RX7 = some m.cls := findClass_of_methodNamed B.named
  have hlocks := B.notSynchronized
  subst hsz
  have hD := hD0.self (sz := s.heap.size)
  generalize hAe : va_A (wF [gS cI b0 b1 x0]) s.heap.size = A at hD ⊢
  have hA : ∀ q : Nat, s.heap.size ≤ q → A q := fun q h => by rw [← hAe]; exact Or.inr h
  have hS : va_S A s.heap s.heap [] := va_S.rf
  have hP : va_P D vwCl (wF [gS cI b0 b1 x0]) s.heap := hP
  have hl := lv_entry ([.ref b0, .int p1, .int p2]) (n := 3) (Nat.le_of_ble_eq_true rfl)
  rw [lg_entry_eq]
  generalize (lg_sl ([.ref b0, .int p1, .int p2]) ++ List.replicate (3 - (lg_sl ([.ref b0, .int p1, .int p2])).length) Slot.unset).toArray = ls at hl ⊢
  have hl : lv_has ls 3 [(0, .ref b0), (1, .int p1), (2, .int p2)] := hl
  have hinX7 : ∀ w ∈ wsX70, w ∈ wsX7_change := fun _ h => List.mem_cons_of_mem _ (List.mem_append_right _ h)
  refine lv_aload_n hx hb dX7_change_0 rfl (lv_at hl 0 rfl) ?_
  refine va_get (D := D) (ci := 7) (v := .ref b1) (C := RX7) (T := TX7) (N := 1) hx hb hts hinX7 hown hQ.1 hP 0 rfl rfl 0 (by decide) (hts (.fieldLink RX7 9 "HeatPumpPlant$Settings" "values" "[I") (List.mem_of_getElem? (i := 1) rfl)) (fun _ h9 => h9) rfl dX7_change_1 ?_
  refine lv_iload_n hx hb dX7_change_4 rfl (lv_at hl 1 rfl) ?_
  refine lv_iload_n hx hb dX7_change_5 rfl (lv_at hl 2 rfl) ?_
  have hP : va_P D vwCl (wF [[(b0, .inr (7, [.ref b1]))], gI cI b1 17 x0]) s.heap := hP
  have hD : va_D A (wF [[(b0, .inr (7, [.ref b1]))], gI cI b1 17 x0]) := hD
  have hPc : va_P D vwCl (wF [gI cI b1 17 x0]) s.heap := w_psub hP [1] rfl
  have hDc : va_D A (wF [gI cI b1 17 x0]) := w_gsub hD [1] rfl rfl
  refine c_Mv (F := F10_replace 17 x0 p1 p2) (G1 := (fun w => [gI cI b1 17 w])) (Gr := [[(b0, .inr (7, [.ref b1]))]]) (Gs' := fun z1 => [[(b0, .inr (7, [.ref b1]))], gI cI b1 17 z1]) (va_runSN (As := [.ref b1, .int p1, .int p2]) (rest := []) ⟨hx, hb, hml, hown, hts⟩ (m10_replace l D cI cL cP b1 17 x0 p1 p2 (by decide) s.heap.size) ⟨va_cnB 3 hts gX7_change_X10_replace_n28 rfl rfl rfl (hQ.2 (RX7, 28, yX10_replace, "HeatPumpPlant") (List.mem_of_getElem? (i := 9) rfl)) (hts (.initialized RX10) (List.mem_of_getElem? (i := 3) rfl)) (by decide +kernel) ⟨Nat.le_of_ble_eq_true rfl, Nat.le_of_ble_eq_true rfl⟩, (hts (.static yX10_replace) (List.mem_of_getElem? (i := 2) rfl)), trivial⟩ (preM_S hQ hPc hDc) rfl rfl hl.1 rfl (lv_room (Nat.le_of_ble_eq_true rfl)) dX7_change_6 ⟨Nat.le_of_ble_eq_true rfl, Nat.le_of_ble_eq_true rfl⟩) hS hA hP hD [1] [0] [1, 0] rfl rfl rfl rfl rfl (fun _ => rfl) (fun z1 H locs hz1 hP hD hS => ?_)
  have hP : va_P D vwCl (wF [gS cI b0 b1 z1]) H := hP
  have hD : va_D A (wF [gS cI b0 b1 z1]) := hD
  exact W.vret hx hb hr (fun t ht hW => ⟨⟨z1, rfl, ((Eq.trans (congrArg (K7_change_1 x0 p1 p2) hz1.symm) (rfl)).symm), by rw [ht]; exact hP, hD⟩, hS.F ht⟩) hS.2.2 dX7_change_9
def F1_temperatureOf (x0 : SB) (p1 : Int32) : Int64 := (if p1 < (0 : Int32) then (-9999 : Int64) else (if (4 : Int32) ≤ p1 then (-9999 : Int64) else (F10_div (x0.1 p1.toNatClampNeg) ((x0.2).toInt64))))
set_option maxHeartbeats 4000000 in
set_option maxRecDepth 100000 in
theorem m1_temperatureOf (l : Launch) (D : va_G) (cI cL cP : ClassId) (b0 : Nat) (b1 : Nat) (x0 : SB) (p1 : Int32) (H0 : Heap) : Met l yX1_temperatureOf wsX1_temperatureOf ({ frames := 1, cells := 0, slots := 0, locals := 25 }) (va_Pc [.ref b0, .int p1] (pR D cI cL cP H0 (wF [gB cL b0 b1 x0]))) (va_Ql (fun (r : Int64) (_ : Unit) => r = F1_temperatureOf x0 p1) (qE H0) nF) 0 0 nF := by
  refine Met.ofW (cc := cX1_temperatureOf) (maxL := 2) (ret := (some .long)) (by decide) rfl ?_
  intro p e s m args below meth c s₁ B hml hv
  obtain ⟨rfl, rfl, hP, hQ⟩ := hv
  have hx := B.exec
  have hb := B.bytes
  have hr := B.returns
  have hts := atoms_spec (ws := wsX1_temperatureOf) B.pre
  have hown : s.vm.findClass RX1 = some m.cls := findClass_of_methodNamed B.named
  have hlocks := B.notSynchronized
  have hS : va_S nF s.heap s.heap [] := va_S.rf
  have hl := lv_entry ([.ref b0, .int p1]) (n := 2) (Nat.le_of_ble_eq_true rfl)
  rw [lg_entry_eq]
  generalize (lg_sl ([.ref b0, .int p1]) ++ List.replicate (2 - (lg_sl ([.ref b0, .int p1])).length) Slot.unset).toArray = ls at hl ⊢
  have hl : lv_has ls 2 [(0, .ref b0), (1, .int p1)] := hl
  have hinX1 : ∀ w ∈ wsX10, w ∈ wsX1_temperatureOf := fun _ h => List.mem_cons_of_mem _ (List.mem_append_right _ h)
  refine lv_iload_n hx hb dX1_temperatureOf_0 rfl (lv_at hl 1 rfl) ?_
  refine lv_if_lt (tgt := 30) hx hb dX1_temperatureOf_1 (by decide) (fun c1 => ?_) (fun c1 => ?_)
  · have c1 : p1 < (0 : Int32) := c1
    refine lv_ldc2 (own := RX1) (index := 27) (v := (-9999 : Int64)) hx hb hown (hts (.constantLong RX1 27 (-9999)) (List.mem_of_getElem? (i := 3) rfl)) dX1_temperatureOf_30 ?_
    exact W.lret (v := (-9999 : Int64)) hx hb hr (fun t ht hW => ⟨⟨(-9999 : Int64), (), rfl, ((Eq.trans (if_pos c1) (rfl)).symm), ht⟩, hS.F ht⟩) hS.2.2 dX1_temperatureOf_33
  · have c1 : ¬ (p1 < (0 : Int32)) := c1
    refine lv_iload_n hx hb dX1_temperatureOf_4 rfl (lv_at hl 1 rfl) ?_
    refine lv_aload_n hx hb dX1_temperatureOf_5 rfl (lv_at hl 0 rfl) ?_
    refine va_get (D := D) (ci := 1) (v := .ref b1) (C := RX1) (T := TX1) (N := 2) hx hb hts hinX1 hown hQ.1 hP 0 rfl rfl 0 (by decide) (hts (.fieldLink RX1 11 "HeatPumpPlant$Buffer" "energies" "[J") (List.mem_of_getElem? (i := 1) rfl)) (fun _ h9 => h9) rfl dX1_temperatureOf_6 ?_
    refine va_alen (v := (4 : Int32)) hx hb hQ.1 hP 1 1 rfl rfl rfl dX1_temperatureOf_9 ?_
    refine lv_icmp_ge (tgt := 30) hx hb dX1_temperatureOf_10 (by decide) (fun c2 => ?_) (fun c2 => ?_)
    · have c2 : (4 : Int32) ≤ p1 := c2
      refine lv_ldc2 (own := RX1) (index := 27) (v := (-9999 : Int64)) hx hb hown (hts (.constantLong RX1 27 (-9999)) (List.mem_of_getElem? (i := 3) rfl)) dX1_temperatureOf_30 ?_
      exact W.lret (v := (-9999 : Int64)) hx hb hr (fun t ht hW => ⟨⟨(-9999 : Int64), (), rfl, ((Eq.trans (if_neg c1) (Eq.trans (if_pos c2) (rfl))).symm), ht⟩, hS.F ht⟩) hS.2.2 dX1_temperatureOf_33
    · have c2 : ¬ ((4 : Int32) ≤ p1) := c2
      refine lv_aload_n hx hb dX1_temperatureOf_13 rfl (lv_at hl 0 rfl) ?_
      refine va_get (D := D) (ci := 1) (v := .ref b1) (C := RX1) (T := TX1) (N := 2) hx hb hts hinX1 hown hQ.1 hP 0 rfl rfl 0 (by decide) (hts (.fieldLink RX1 11 "HeatPumpPlant$Buffer" "energies" "[J") (List.mem_of_getElem? (i := 1) rfl)) (fun _ h9 => h9) rfl dX1_temperatureOf_14 ?_
      refine lv_iload_n hx hb dX1_temperatureOf_17 rfl (lv_at hl 1 rfl) ?_
      refine va_lald (f := x0.1) hx hb hQ.1 hP 1 1 rfl rfl (w_inx (by decide) c1 c2) dX1_temperatureOf_18 ?_
      refine lv_aload_n hx hb dX1_temperatureOf_19 rfl (lv_at hl 0 rfl) ?_
      refine va_get (D := D) (ci := 1) (v := .int x0.2) (C := RX1) (T := TX1) (N := 2) hx hb hts hinX1 hown hQ.1 hP 0 rfl rfl 1 (by decide) (hts (.fieldLink RX1 19 "HeatPumpPlant$Buffer" "capacity" "I") (List.mem_of_getElem? (i := 2) rfl)) (fun _ h9 => h9) rfl dX1_temperatureOf_20 ?_
      refine lv_i2l hx hb dX1_temperatureOf_23 rfl ?_
      have hPc : va_P D vwCl (wF []) s.heap := hP.sub [] rfl
      refine c_Rl (va_runSN (As := [.long (x0.1 p1.toNatClampNeg), .long ((x0.2).toInt64)]) (rest := []) ⟨hx, hb, hml, hown, hts⟩ (m10_div l D cI cL cP (x0.1 p1.toNatClampNeg) ((x0.2).toInt64) s.heap) ⟨va_cnB 2 hts gX1_temperatureOf_X10_div_n23 rfl rfl rfl (hQ.2 (RX1, 23, yX10_div, "HeatPumpPlant") (List.mem_of_getElem? (i := 15) rfl)) (hts (.initialized RX10) (List.mem_of_getElem? (i := 5) rfl)) (by decide +kernel) ⟨Nat.le_of_ble_eq_true rfl, Nat.le_of_ble_eq_true rfl⟩, (hts (.static yX10_div) (List.mem_of_getElem? (i := 4) rfl)), trivial⟩ (preR_S hQ hPc) rfl rfl hl.1 rfl (lv_room (Nat.le_of_ble_eq_true rfl)) dX1_temperatureOf_24 ⟨Nat.le_of_ble_eq_true rfl, Nat.le_of_ble_eq_true rfl⟩) hS (fun locs hS => ?_)
      refine lv_goto (tgt := 33) hx hb dX1_temperatureOf_27 (by decide) ?_
      exact W.lret (v := (F10_div (x0.1 p1.toNatClampNeg) ((x0.2).toInt64))) hx hb hr (fun t ht hW => ⟨⟨(F10_div (x0.1 p1.toNatClampNeg) ((x0.2).toInt64)), (), rfl, ((Eq.trans (if_neg c1) (Eq.trans (if_neg c2) (rfl))).symm), ht⟩, hS.F ht⟩) hS.2.2 dX1_temperatureOf_33
