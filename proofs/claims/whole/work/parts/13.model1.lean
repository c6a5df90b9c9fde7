def F11_in (p1 : Int64) (p2 : Int64) (p3 : Int64) : Bool := (if p1 < p2 then false else (if p3 < p1 then false else true))
set_option maxHeartbeats 4000000 in
set_option maxRecDepth 100000 in
theorem m11_in (l : Launch) (D : va_G) (cI cL cP : ClassId) (p1 : Int64) (p2 : Int64) (p3 : Int64) (H0 : Heap) : Met l yX11_in wsX11_in ({ frames := 0, cells := 0, slots := 0, locals := 0 }) (va_Pc [.long p1, .long p2, .long p3] (pR D cI cL cP H0 (wF []))) (va_Qi (fun (r : Int32) (_ : Unit) => r = bI (F11_in p1 p2 p3)) (qE H0) nF) 0 0 nF := by
  refine Met.ofW (cc := cX11_in) (maxL := 6) (ret := (some .boolean)) (by decide) rfl ?_
  intro p e s m args below meth c s₁ B hml hv
  obtain ⟨rfl, rfl, hP, hQ⟩ := hv
  have hx := B.exec
  have hb := B.bytes
  have hr := B.returns
  have hts := atoms_spec (ws := wsX11_in) B.pre
  have hown : s.vm.findClass RX11 = some m.cls := findClass_of_methodNamed B.named
  have hlocks := B.notSynchronized
  have hS : va_S nF s.heap s.heap [] := va_S.rf
  have hl := lv_entry ([.long p1, .long p2, .long p3]) (n := 6) (Nat.le_of_ble_eq_true rfl)
  rw [lg_entry_eq]
  generalize (lg_sl ([.long p1, .long p2, .long p3]) ++ List.replicate (6 - (lg_sl ([.long p1, .long p2, .long p3])).length) Slot.unset).toArray = ls at hl ⊢
  have hl : lv_has ls 6 [(0, .long p1), (2, .long p2), (4, .long p3)] := hl
  refine lv_lload_n hx hb dX11_in_0 rfl (lv_at hl 0 rfl) ?_
  refine lv_lload_n hx hb dX11_in_1 rfl (lv_at hl 1 rfl) ?_
  refine w_llt (tgt := 17) hx hb dX11_in_2 dX11_in_3 (by decide) (fun c1 => ?_) (fun c1 => ?_)
  · have c1 : p1 < p2 := c1
    refine lv_iconst (v := (0 : Int32)) hx hb dX11_in_17 (by decide) ?_
    exact W.zret (v := (0 : Int32)) (ty := .boolean) hx hb hr rfl (fun t ht hW => ⟨⟨(0 : Int32), (), rfl, ((congrArg bI (show F11_in p1 p2 p3 = false from Eq.trans (if_pos c1) (rfl))).symm), ht⟩, hS.F ht⟩) hS.2.2 dX11_in_18
  · have c1 : ¬ (p1 < p2) := c1
    refine lv_lload_n hx hb dX11_in_6 rfl (lv_at hl 0 rfl) ?_
    refine lv_lload hx hb dX11_in_7 (lv_at hl 2 rfl) ?_
    refine w_lgt (tgt := 17) hx hb dX11_in_9 dX11_in_10 (by decide) (fun c2 => ?_) (fun c2 => ?_)
    · have c2 : p3 < p1 := c2
      refine lv_iconst (v := (0 : Int32)) hx hb dX11_in_17 (by decide) ?_
      exact W.zret (v := (0 : Int32)) (ty := .boolean) hx hb hr rfl (fun t ht hW => ⟨⟨(0 : Int32), (), rfl, ((congrArg bI (show F11_in p1 p2 p3 = false from Eq.trans (if_neg c1) (Eq.trans (if_pos c2) (rfl)))).symm), ht⟩, hS.F ht⟩) hS.2.2 dX11_in_18
    · have c2 : ¬ (p3 < p1) := c2
      refine lv_iconst (v := (1 : Int32)) hx hb dX11_in_13 (by decide) ?_
      refine lv_goto (tgt := 18) hx hb dX11_in_14 (by decide) ?_
      exact W.zret (v := (1 : Int32)) (ty := .boolean) hx hb hr rfl (fun t ht hW => ⟨⟨(1 : Int32), (), rfl, ((congrArg bI (show F11_in p1 p2 p3 = true from Eq.trans (if_neg c1) (Eq.trans (if_neg c2) (rfl)))).symm), ht⟩, hS.F ht⟩) hS.2.2 dX11_in_18
theorem w_inr {p lo hi : Int64} (h : F11_in p lo hi = true) : lo ≤ p ∧ p ≤ hi := by
  unfold F11_in at h
  by_cases h1 : p < lo
  · rw [if_pos h1] at h; cases h
  · rw [if_neg h1] at h
    by_cases h2 : hi < p
    · rw [if_pos h2] at h; cases h
    · exact ⟨Int64.not_lt.mp h1, Int64.not_lt.mp h2⟩
theorem w_in32 {p : Int32} {lo hi : Int64} (h : F11_in p.toInt64 lo hi = true) : lo.toInt ≤ p.toInt ∧ p.toInt ≤ hi.toInt := by
  obtain ⟨a, b⟩ := w_inr h
  rw [Int64.le_iff_toInt_le, Int32.toInt_toInt64] at a b
  exact ⟨a, b⟩
theorem w_i0 {p : Int32} (h : 0 ≤ p.toInt) : ¬ p < 0 := by
  rw [Int32.lt_iff_toInt_lt, show (0 : Int32).toInt = 0 from by decide]
  omega
theorem w_inN {p : Int32} {lo hi : Int64} (h : F11_in p.toInt64 lo hi = true) (h0 : 0 ≤ lo.toInt) : p = nI p.toNatClampNeg := w_nat (w_i0 (Int.le_trans h0 (w_in32 h).1))
theorem w_inL {p : Int32} {lo hi : Int64} {n : Nat} (h : F11_in p.toInt64 lo hi = true) (h0 : 0 ≤ lo.toInt) (hn : hi.toInt < (n : Int)) : p.toNatClampNeg < n := by
  have h1 := w_in32 h
  unfold Int32.toNatClampNeg
  omega
def F11_div (p1 : Int64) (p2 : Int64) : Int64 := (if (p1 - p1 / p2 * p2) = (0 : Int64) then (p1 / p2) else (if (bI (!decide ((0 : Int64) ≤ p1))) = (bI (!decide ((0 : Int64) ≤ p2))) then (p1 / p2) else ((p1 / p2) - (1 : Int64))))
set_option maxHeartbeats 4000000 in
set_option maxRecDepth 100000 in
theorem m11_div (l : Launch) (D : va_G) (cI cL cP : ClassId) (p1 : Int64) (p2 : Int64) (h0 : ¬ p2 = 0) (H0 : Heap) : Met l yX11_div wsX11_div ({ frames := 0, cells := 0, slots := 0, locals := 0 }) (va_Pc [.long p1, .long p2] (pR D cI cL cP H0 (wF []))) (va_Ql (fun (r : Int64) (_ : Unit) => r = F11_div p1 p2) (qE H0) nF) 0 0 nF := by
  refine Met.ofW (cc := cX11_div) (maxL := 6) (ret := (some .long)) (by decide) rfl ?_
  intro p e s m args below meth c s₁ B hml hv
  obtain ⟨rfl, rfl, hP, hQ⟩ := hv
  have hx := B.exec
  have hb := B.bytes
  have hr := B.returns
  have hts := atoms_spec (ws := wsX11_div) B.pre
  have hown : s.vm.findClass RX11 = some m.cls := findClass_of_methodNamed B.named
  have hlocks := B.notSynchronized
  have hS : va_S nF s.heap s.heap [] := va_S.rf
  have hl := lv_entry ([.long p1, .long p2]) (n := 6) (Nat.le_of_ble_eq_true rfl)
  rw [lg_entry_eq]
  generalize (lg_sl ([.long p1, .long p2]) ++ List.replicate (6 - (lg_sl ([.long p1, .long p2])).length) Slot.unset).toArray = ls at hl ⊢
  have hl : lv_has ls 6 [(0, .long p1), (2, .long p2)] := hl
  refine lv_lload_n hx hb dX11_div_0 rfl (lv_at hl 0 rfl) ?_
  refine lv_lload_n hx hb dX11_div_1 rfl (lv_at hl 1 rfl) ?_
  refine lv_ldiv hx hb dX11_div_2 h0 ?_
  refine lv_lstore (lv' := [(4, .long (p1 / p2)), (0, .long p1), (2, .long p2)]) hx hb dX11_div_3 hl (by decide) rfl (fun ls hl => ?_)
  refine lv_lload_n hx hb dX11_div_5 rfl (lv_at hl 1 rfl) ?_
  refine lv_lload_n hx hb dX11_div_6 rfl (lv_at hl 2 rfl) ?_
  refine lv_lrem hx hb dX11_div_7 h0 ?_
  refine lv_lconst (v := (0 : Int64)) hx hb dX11_div_8 rfl ?_
  refine w_leq (tgt := 45) hx hb dX11_div_9 dX11_div_10 (by decide) (fun c1 => ?_) (fun c1 => ?_)
  · have c1 : (p1 - p1 / p2 * p2) = (0 : Int64) := c1
    refine lv_lload hx hb dX11_div_45 (lv_at hl 0 rfl) ?_
    exact W.lret (v := (p1 / p2)) hx hb hr (fun t ht hW => ⟨⟨(p1 / p2), (), rfl, ((Eq.trans (if_pos c1) (rfl)).symm), ht⟩, hS.F ht⟩) hS.2.2 dX11_div_47
  · have c1 : ¬ ((p1 - p1 / p2 * p2) = (0 : Int64)) := c1
    refine lv_lload_n hx hb dX11_div_13 rfl (lv_at hl 1 rfl) ?_
    refine lv_lconst (v := (0 : Int64)) hx hb dX11_div_14 rfl ?_
    refine w_diaN (rest := []) (K := (0 : Int64) ≤ p1) 24 (fun kt kf => ?_) ?_
    · refine w_lge (tgt := 23) hx hb dX11_div_15 dX11_div_16 (by decide) (fun c2 => ?_) (fun c2 => ?_)
      · have c2 : (0 : Int64) ≤ p1 := c2
        refine lv_iconst (v := (0 : Int32)) hx hb dX11_div_23 (by decide) ?_
        exact kt c2
      · have c2 : ¬ ((0 : Int64) ≤ p1) := c2
        refine lv_iconst (v := (1 : Int32)) hx hb dX11_div_19 (by decide) ?_
        refine lv_goto (tgt := 24) hx hb dX11_div_20 (by decide) ?_
        exact kf c2
    refine lv_lload_n hx hb dX11_div_24 rfl (lv_at hl 2 rfl) ?_
    refine lv_lconst (v := (0 : Int64)) hx hb dX11_div_25 rfl ?_
    refine w_diaN (rest := [.int (bI (!decide ((0 : Int64) ≤ p1)))]) (K := (0 : Int64) ≤ p2) 35 (fun kt kf => ?_) ?_
    · refine w_lge (tgt := 34) hx hb dX11_div_26 dX11_div_27 (by decide) (fun c3 => ?_) (fun c3 => ?_)
      · have c3 : (0 : Int64) ≤ p2 := c3
        refine lv_iconst (v := (0 : Int32)) hx hb dX11_div_34 (by decide) ?_
        exact kt c3
      · have c3 : ¬ ((0 : Int64) ≤ p2) := c3
        refine lv_iconst (v := (1 : Int32)) hx hb dX11_div_30 (by decide) ?_
        refine lv_goto (tgt := 35) hx hb dX11_div_31 (by decide) ?_
        exact kf c3
    refine lv_icmp_eq (tgt := 45) hx hb dX11_div_35 (by decide) (fun c4 => ?_) (fun c4 => ?_)
    · have c4 : (bI (!decide ((0 : Int64) ≤ p1))) = (bI (!decide ((0 : Int64) ≤ p2))) := c4
      refine lv_lload hx hb dX11_div_45 (lv_at hl 0 rfl) ?_
      exact W.lret (v := (p1 / p2)) hx hb hr (fun t ht hW => ⟨⟨(p1 / p2), (), rfl, ((Eq.trans (if_neg c1) (Eq.trans (if_pos c4) (rfl))).symm), ht⟩, hS.F ht⟩) hS.2.2 dX11_div_47
    · have c4 : ¬ ((bI (!decide ((0 : Int64) ≤ p1))) = (bI (!decide ((0 : Int64) ≤ p2)))) := c4
      refine lv_lload hx hb dX11_div_38 (lv_at hl 0 rfl) ?_
      refine lv_lconst (v := (1 : Int64)) hx hb dX11_div_40 rfl ?_
      refine lv_lsub hx hb dX11_div_41 ?_
      refine lv_goto (tgt := 47) hx hb dX11_div_42 (by decide) ?_
      exact W.lret (v := ((p1 / p2) - (1 : Int64))) hx hb hr (fun t ht hW => ⟨⟨((p1 / p2) - (1 : Int64)), (), rfl, ((Eq.trans (if_neg c1) (Eq.trans (if_neg c4) (rfl))).symm), ht⟩, hS.F ht⟩) hS.2.2 dX11_div_47
def F11_least (p1 : Nat) : Int32 := (([0, 0, 1, 1, 300, 0, 150, 500, 0, -50, 1, 1, 0, 0, 0, 100, 1] : List Int32).getD p1 0)
set_option maxHeartbeats 4000000 in
set_option maxRecDepth 100000 in
theorem m11_least (l : Launch) (D : va_G) (cI cL cP : ClassId) (p1 : Nat) (hp : p1 < 17) (H0 : Heap) : Met l yX11_least wsX11_least ({ frames := 0, cells := 0, slots := 0, locals := 0 }) (va_Pc [.int (nI p1)] (pR D cI cL cP H0 (wF []))) (va_Qi (fun (r : Int32) (_ : Unit) => r = F11_least p1) (qE H0) nF) 0 0 nF := by
  refine Met.ofW (cc := cX11_least) (maxL := 1) (ret := (some .int)) (by decide) rfl ?_
  intro p e s m args below meth c s₁ B hml hv
  obtain ⟨rfl, rfl, hP, hQ⟩ := hv
  have hx := B.exec
  have hb := B.bytes
  have hr := B.returns
  have hts := atoms_spec (ws := wsX11_least) B.pre
  have hown : s.vm.findClass RX11 = some m.cls := findClass_of_methodNamed B.named
  have hlocks := B.notSynchronized
  have hS : va_S nF s.heap s.heap [] := va_S.rf
  have hl := lv_entry ([.int (nI p1)]) (n := 1) (Nat.le_of_ble_eq_true rfl)
  rw [lg_entry_eq]
  generalize (lg_sl ([.int (nI p1)]) ++ List.replicate (1 - (lg_sl ([.int (nI p1)])).length) Slot.unset).toArray = ls at hl ⊢
  have hl : lv_has ls 1 [(0, .int (nI p1))] := hl
  refine lv_iload_n hx hb dX11_least_0 rfl (lv_at hl 0 rfl) ?_
  rcases (show p1 = 0 ∨ p1 = 1 ∨ p1 = 2 ∨ p1 = 3 ∨ p1 = 4 ∨ p1 = 5 ∨ p1 = 6 ∨ p1 = 7 ∨ p1 = 8 ∨ p1 = 9 ∨ p1 = 10 ∨ p1 = 11 ∨ p1 = 12 ∨ p1 = 13 ∨ p1 = 14 ∨ p1 = 15 ∨ p1 = 16 by omega) with rfl | rfl | rfl | rfl | rfl | rfl | rfl | rfl | rfl | rfl | rfl | rfl | rfl | rfl | rfl | rfl | rfl
  · refine lv_tableOut (tgt := 96) hx hb dX11_least_1 (by decide) (by decide) ?_
    refine lv_iconst (v := (0 : Int32)) hx hb dX11_least_96 (by decide) ?_
    exact W.iret (v := (0 : Int32)) hx hb hr (fun t ht hW => ⟨⟨(0 : Int32), (), rfl, (rfl), ht⟩, hS.F ht⟩) hS.2.2 dX11_least_97
  · refine lv_tableOut (tgt := 96) hx hb dX11_least_1 (by decide) (by decide) ?_
    refine lv_iconst (v := (0 : Int32)) hx hb dX11_least_96 (by decide) ?_
    exact W.iret (v := (0 : Int32)) hx hb hr (fun t ht hW => ⟨⟨(0 : Int32), (), rfl, (rfl), ht⟩, hS.F ht⟩) hS.2.2 dX11_least_97
  · refine lv_tableIn (tgt := 76) hx hb dX11_least_1 (by decide) (by decide) rfl (by decide) ?_
    refine lv_iconst (v := (1 : Int32)) hx hb dX11_least_76 (by decide) ?_
    exact W.iret (v := (1 : Int32)) hx hb hr (fun t ht hW => ⟨⟨(1 : Int32), (), rfl, (rfl), ht⟩, hS.F ht⟩) hS.2.2 dX11_least_77
  · refine lv_tableIn (tgt := 76) hx hb dX11_least_1 (by decide) (by decide) rfl (by decide) ?_
    refine lv_iconst (v := (1 : Int32)) hx hb dX11_least_76 (by decide) ?_
    exact W.iret (v := (1 : Int32)) hx hb hr (fun t ht hW => ⟨⟨(1 : Int32), (), rfl, (rfl), ht⟩, hS.F ht⟩) hS.2.2 dX11_least_77
  · refine lv_tableIn (tgt := 78) hx hb dX11_least_1 (by decide) (by decide) rfl (by decide) ?_
    refine lv_sipush (v := (300 : Int32)) hx hb dX11_least_78 (by decide) ?_
    exact W.iret (v := (300 : Int32)) hx hb hr (fun t ht hW => ⟨⟨(300 : Int32), (), rfl, (rfl), ht⟩, hS.F ht⟩) hS.2.2 dX11_least_81
  · refine lv_tableIn (tgt := 96) hx hb dX11_least_1 (by decide) (by decide) rfl (by decide) ?_
    refine lv_iconst (v := (0 : Int32)) hx hb dX11_least_96 (by decide) ?_
    exact W.iret (v := (0 : Int32)) hx hb hr (fun t ht hW => ⟨⟨(0 : Int32), (), rfl, (rfl), ht⟩, hS.F ht⟩) hS.2.2 dX11_least_97
  · refine lv_tableIn (tgt := 82) hx hb dX11_least_1 (by decide) (by decide) rfl (by decide) ?_
    refine lv_sipush (v := (150 : Int32)) hx hb dX11_least_82 (by decide) ?_
    exact W.iret (v := (150 : Int32)) hx hb hr (fun t ht hW => ⟨⟨(150 : Int32), (), rfl, (rfl), ht⟩, hS.F ht⟩) hS.2.2 dX11_least_85
  · refine lv_tableIn (tgt := 86) hx hb dX11_least_1 (by decide) (by decide) rfl (by decide) ?_
    refine lv_sipush (v := (500 : Int32)) hx hb dX11_least_86 (by decide) ?_
    exact W.iret (v := (500 : Int32)) hx hb hr (fun t ht hW => ⟨⟨(500 : Int32), (), rfl, (rfl), ht⟩, hS.F ht⟩) hS.2.2 dX11_least_89
  · refine lv_tableIn (tgt := 96) hx hb dX11_least_1 (by decide) (by decide) rfl (by decide) ?_
    refine lv_iconst (v := (0 : Int32)) hx hb dX11_least_96 (by decide) ?_
    exact W.iret (v := (0 : Int32)) hx hb hr (fun t ht hW => ⟨⟨(0 : Int32), (), rfl, (rfl), ht⟩, hS.F ht⟩) hS.2.2 dX11_least_97
  · refine lv_tableIn (tgt := 90) hx hb dX11_least_1 (by decide) (by decide) rfl (by decide) ?_
    refine lv_bipush (v := (-50 : Int32)) hx hb dX11_least_90 (by decide) ?_
    exact W.iret (v := (-50 : Int32)) hx hb hr (fun t ht hW => ⟨⟨(-50 : Int32), (), rfl, (rfl), ht⟩, hS.F ht⟩) hS.2.2 dX11_least_92
  · refine lv_tableIn (tgt := 76) hx hb dX11_least_1 (by decide) (by decide) rfl (by decide) ?_
    refine lv_iconst (v := (1 : Int32)) hx hb dX11_least_76 (by decide) ?_
    exact W.iret (v := (1 : Int32)) hx hb hr (fun t ht hW => ⟨⟨(1 : Int32), (), rfl, (rfl), ht⟩, hS.F ht⟩) hS.2.2 dX11_least_77
  · refine lv_tableIn (tgt := 76) hx hb dX11_least_1 (by decide) (by decide) rfl (by decide) ?_
    refine lv_iconst (v := (1 : Int32)) hx hb dX11_least_76 (by decide) ?_
    exact W.iret (v := (1 : Int32)) hx hb hr (fun t ht hW => ⟨⟨(1 : Int32), (), rfl, (rfl), ht⟩, hS.F ht⟩) hS.2.2 dX11_least_77
  · refine lv_tableIn (tgt := 96) hx hb dX11_least_1 (by decide) (by decide) rfl (by decide) ?_
    refine lv_iconst (v := (0 : Int32)) hx hb dX11_least_96 (by decide) ?_
    exact W.iret (v := (0 : Int32)) hx hb hr (fun t ht hW => ⟨⟨(0 : Int32), (), rfl, (rfl), ht⟩, hS.F ht⟩) hS.2.2 dX11_least_97
  · refine lv_tableIn (tgt := 96) hx hb dX11_least_1 (by decide) (by decide) rfl (by decide) ?_
    refine lv_iconst (v := (0 : Int32)) hx hb dX11_least_96 (by decide) ?_
    exact W.iret (v := (0 : Int32)) hx hb hr (fun t ht hW => ⟨⟨(0 : Int32), (), rfl, (rfl), ht⟩, hS.F ht⟩) hS.2.2 dX11_least_97
  · refine lv_tableIn (tgt := 96) hx hb dX11_least_1 (by decide) (by decide) rfl (by decide) ?_
    refine lv_iconst (v := (0 : Int32)) hx hb dX11_least_96 (by decide) ?_
    exact W.iret (v := (0 : Int32)) hx hb hr (fun t ht hW => ⟨⟨(0 : Int32), (), rfl, (rfl), ht⟩, hS.F ht⟩) hS.2.2 dX11_least_97
  · refine lv_tableIn (tgt := 93) hx hb dX11_least_1 (by decide) (by decide) rfl (by decide) ?_
    refine lv_bipush (v := (100 : Int32)) hx hb dX11_least_93 (by decide) ?_
    exact W.iret (v := (100 : Int32)) hx hb hr (fun t ht hW => ⟨⟨(100 : Int32), (), rfl, (rfl), ht⟩, hS.F ht⟩) hS.2.2 dX11_least_95
  · refine lv_tableIn (tgt := 76) hx hb dX11_least_1 (by decide) (by decide) rfl (by decide) ?_
    refine lv_iconst (v := (1 : Int32)) hx hb dX11_least_76 (by decide) ?_
    exact W.iret (v := (1 : Int32)) hx hb hr (fun t ht hW => ⟨⟨(1 : Int32), (), rfl, (rfl), ht⟩, hS.F ht⟩) hS.2.2 dX11_least_77
def F11_most (p1 : Nat) : Int32 := (([60, 60, 10, 100, 700, 150, 500, 20000, 200, 100, 600, 20, 20000, 50, 100, 300, 1000] : List Int32).getD p1 0)
set_option maxHeartbeats 4000000 in
set_option maxRecDepth 100000 in
theorem m11_most (l : Launch) (D : va_G) (cI cL cP : ClassId) (p1 : Nat) (hp : p1 < 17) (H0 : Heap) : Met l yX11_most wsX11_most ({ frames := 0, cells := 0, slots := 0, locals := 0 }) (va_Pc [.int (nI p1)] (pR D cI cL cP H0 (wF []))) (va_Qi (fun (r : Int32) (_ : Unit) => r = F11_most p1) (qE H0) nF) 0 0 nF := by
  refine Met.ofW (cc := cX11_most) (maxL := 1) (ret := (some .int)) (by decide) rfl ?_
  intro p e s m args below meth c s₁ B hml hv
  obtain ⟨rfl, rfl, hP, hQ⟩ := hv
  have hx := B.exec
  have hb := B.bytes
  have hr := B.returns
  have hts := atoms_spec (ws := wsX11_most) B.pre
  have hown : s.vm.findClass RX11 = some m.cls := findClass_of_methodNamed B.named
  have hlocks := B.notSynchronized
  have hS : va_S nF s.heap s.heap [] := va_S.rf
  have hl := lv_entry ([.int (nI p1)]) (n := 1) (Nat.le_of_ble_eq_true rfl)
  rw [lg_entry_eq]
  generalize (lg_sl ([.int (nI p1)]) ++ List.replicate (1 - (lg_sl ([.int (nI p1)])).length) Slot.unset).toArray = ls at hl ⊢
  have hl : lv_has ls 1 [(0, .int (nI p1))] := hl
  refine lv_iload_n hx hb dX11_most_0 rfl (lv_at hl 0 rfl) ?_
  rcases (show p1 = 0 ∨ p1 = 1 ∨ p1 = 2 ∨ p1 = 3 ∨ p1 = 4 ∨ p1 = 5 ∨ p1 = 6 ∨ p1 = 7 ∨ p1 = 8 ∨ p1 = 9 ∨ p1 = 10 ∨ p1 = 11 ∨ p1 = 12 ∨ p1 = 13 ∨ p1 = 14 ∨ p1 = 15 ∨ p1 = 16 by omega) with rfl | rfl | rfl | rfl | rfl | rfl | rfl | rfl | rfl | rfl | rfl | rfl | rfl | rfl | rfl | rfl | rfl
  · refine lv_tableIn (tgt := 80) hx hb dX11_most_1 (by decide) (by decide) rfl (by decide) ?_
    refine lv_bipush (v := (60 : Int32)) hx hb dX11_most_80 (by decide) ?_
    exact W.iret (v := (60 : Int32)) hx hb hr (fun t ht hW => ⟨⟨(60 : Int32), (), rfl, (rfl), ht⟩, hS.F ht⟩) hS.2.2 dX11_most_82
  · refine lv_tableIn (tgt := 80) hx hb dX11_most_1 (by decide) (by decide) rfl (by decide) ?_
    refine lv_bipush (v := (60 : Int32)) hx hb dX11_most_80 (by decide) ?_
    exact W.iret (v := (60 : Int32)) hx hb hr (fun t ht hW => ⟨⟨(60 : Int32), (), rfl, (rfl), ht⟩, hS.F ht⟩) hS.2.2 dX11_most_82
  · refine lv_tableIn (tgt := 83) hx hb dX11_most_1 (by decide) (by decide) rfl (by decide) ?_
    refine lv_bipush (v := (10 : Int32)) hx hb dX11_most_83 (by decide) ?_
    exact W.iret (v := (10 : Int32)) hx hb hr (fun t ht hW => ⟨⟨(10 : Int32), (), rfl, (rfl), ht⟩, hS.F ht⟩) hS.2.2 dX11_most_85
  · refine lv_tableIn (tgt := 86) hx hb dX11_most_1 (by decide) (by decide) rfl (by decide) ?_
    refine lv_bipush (v := (100 : Int32)) hx hb dX11_most_86 (by decide) ?_
    exact W.iret (v := (100 : Int32)) hx hb hr (fun t ht hW => ⟨⟨(100 : Int32), (), rfl, (rfl), ht⟩, hS.F ht⟩) hS.2.2 dX11_most_88
  · refine lv_tableIn (tgt := 89) hx hb dX11_most_1 (by decide) (by decide) rfl (by decide) ?_
    refine lv_sipush (v := (700 : Int32)) hx hb dX11_most_89 (by decide) ?_
    exact W.iret (v := (700 : Int32)) hx hb hr (fun t ht hW => ⟨⟨(700 : Int32), (), rfl, (rfl), ht⟩, hS.F ht⟩) hS.2.2 dX11_most_92
  · refine lv_tableIn (tgt := 93) hx hb dX11_most_1 (by decide) (by decide) rfl (by decide) ?_
    refine lv_sipush (v := (150 : Int32)) hx hb dX11_most_93 (by decide) ?_
    exact W.iret (v := (150 : Int32)) hx hb hr (fun t ht hW => ⟨⟨(150 : Int32), (), rfl, (rfl), ht⟩, hS.F ht⟩) hS.2.2 dX11_most_96
  · refine lv_tableIn (tgt := 97) hx hb dX11_most_1 (by decide) (by decide) rfl (by decide) ?_
    refine lv_sipush (v := (500 : Int32)) hx hb dX11_most_97 (by decide) ?_
    exact W.iret (v := (500 : Int32)) hx hb hr (fun t ht hW => ⟨⟨(500 : Int32), (), rfl, (rfl), ht⟩, hS.F ht⟩) hS.2.2 dX11_most_100
  · refine lv_tableIn (tgt := 101) hx hb dX11_most_1 (by decide) (by decide) rfl (by decide) ?_
    refine lv_sipush (v := (20000 : Int32)) hx hb dX11_most_101 (by decide) ?_
    exact W.iret (v := (20000 : Int32)) hx hb hr (fun t ht hW => ⟨⟨(20000 : Int32), (), rfl, (rfl), ht⟩, hS.F ht⟩) hS.2.2 dX11_most_104
  · refine lv_tableIn (tgt := 105) hx hb dX11_most_1 (by decide) (by decide) rfl (by decide) ?_
    refine lv_sipush (v := (200 : Int32)) hx hb dX11_most_105 (by decide) ?_
    exact W.iret (v := (200 : Int32)) hx hb hr (fun t ht hW => ⟨⟨(200 : Int32), (), rfl, (rfl), ht⟩, hS.F ht⟩) hS.2.2 dX11_most_108
  · refine lv_tableIn (tgt := 86) hx hb dX11_most_1 (by decide) (by decide) rfl (by decide) ?_
    refine lv_bipush (v := (100 : Int32)) hx hb dX11_most_86 (by decide) ?_
    exact W.iret (v := (100 : Int32)) hx hb hr (fun t ht hW => ⟨⟨(100 : Int32), (), rfl, (rfl), ht⟩, hS.F ht⟩) hS.2.2 dX11_most_88
  · refine lv_tableIn (tgt := 109) hx hb dX11_most_1 (by decide) (by decide) rfl (by decide) ?_
    refine lv_sipush (v := (600 : Int32)) hx hb dX11_most_109 (by decide) ?_
    exact W.iret (v := (600 : Int32)) hx hb hr (fun t ht hW => ⟨⟨(600 : Int32), (), rfl, (rfl), ht⟩, hS.F ht⟩) hS.2.2 dX11_most_112
  · refine lv_tableIn (tgt := 113) hx hb dX11_most_1 (by decide) (by decide) rfl (by decide) ?_
    refine lv_bipush (v := (20 : Int32)) hx hb dX11_most_113 (by decide) ?_
    exact W.iret (v := (20 : Int32)) hx hb hr (fun t ht hW => ⟨⟨(20 : Int32), (), rfl, (rfl), ht⟩, hS.F ht⟩) hS.2.2 dX11_most_115
  · refine lv_tableIn (tgt := 101) hx hb dX11_most_1 (by decide) (by decide) rfl (by decide) ?_
    refine lv_sipush (v := (20000 : Int32)) hx hb dX11_most_101 (by decide) ?_
    exact W.iret (v := (20000 : Int32)) hx hb hr (fun t ht hW => ⟨⟨(20000 : Int32), (), rfl, (rfl), ht⟩, hS.F ht⟩) hS.2.2 dX11_most_104
  · refine lv_tableIn (tgt := 116) hx hb dX11_most_1 (by decide) (by decide) rfl (by decide) ?_
    refine lv_bipush (v := (50 : Int32)) hx hb dX11_most_116 (by decide) ?_
    exact W.iret (v := (50 : Int32)) hx hb hr (fun t ht hW => ⟨⟨(50 : Int32), (), rfl, (rfl), ht⟩, hS.F ht⟩) hS.2.2 dX11_most_118
  · refine lv_tableIn (tgt := 86) hx hb dX11_most_1 (by decide) (by decide) rfl (by decide) ?_
    refine lv_bipush (v := (100 : Int32)) hx hb dX11_most_86 (by decide) ?_
    exact W.iret (v := (100 : Int32)) hx hb hr (fun t ht hW => ⟨⟨(100 : Int32), (), rfl, (rfl), ht⟩, hS.F ht⟩) hS.2.2 dX11_most_88
  · refine lv_tableIn (tgt := 119) hx hb dX11_most_1 (by decide) (by decide) rfl (by decide) ?_
    refine lv_sipush (v := (300 : Int32)) hx hb dX11_most_119 (by decide) ?_
    exact W.iret (v := (300 : Int32)) hx hb hr (fun t ht hW => ⟨⟨(300 : Int32), (), rfl, (rfl), ht⟩, hS.F ht⟩) hS.2.2 dX11_most_122
  · refine lv_tableOut (tgt := 123) hx hb dX11_most_1 (by decide) (by decide) ?_
    refine lv_sipush (v := (1000 : Int32)) hx hb dX11_most_123 (by decide) ?_
    exact W.iret (v := (1000 : Int32)) hx hb hr (fun t ht hW => ⟨⟨(1000 : Int32), (), rfl, (rfl), ht⟩, hS.F ht⟩) hS.2.2 dX11_most_126
def F11_first (p1 : Nat) : Int32 := (([10, 5, 3, 20, 550, 30, 280, 6000, 100, 50, 45, 6, 3000, 2, 20, 200, 150] : List Int32).getD p1 0)
set_option maxHeartbeats 4000000 in
set_option maxRecDepth 100000 in
theorem m11_first (l : Launch) (D : va_G) (cI cL cP : ClassId) (p1 : Nat) (hp : p1 < 17) (H0 : Heap) : Met l yX11_first wsX11_first ({ frames := 0, cells := 0, slots := 0, locals := 0 }) (va_Pc [.int (nI p1)] (pR D cI cL cP H0 (wF []))) (va_Qi (fun (r : Int32) (_ : Unit) => r = F11_first p1) (qE H0) nF) 0 0 nF := by
  refine Met.ofW (cc := cX11_first) (maxL := 1) (ret := (some .int)) (by decide) rfl ?_
  intro p e s m args below meth c s₁ B hml hv
  obtain ⟨rfl, rfl, hP, hQ⟩ := hv
  have hx := B.exec
  have hb := B.bytes
  have hr := B.returns
  have hts := atoms_spec (ws := wsX11_first) B.pre
  have hown : s.vm.findClass RX11 = some m.cls := findClass_of_methodNamed B.named
  have hlocks := B.notSynchronized
  have hS : va_S nF s.heap s.heap [] := va_S.rf
  have hl := lv_entry ([.int (nI p1)]) (n := 1) (Nat.le_of_ble_eq_true rfl)
  rw [lg_entry_eq]
  generalize (lg_sl ([.int (nI p1)]) ++ List.replicate (1 - (lg_sl ([.int (nI p1)])).length) Slot.unset).toArray = ls at hl ⊢
  have hl : lv_has ls 1 [(0, .int (nI p1))] := hl
  refine lv_iload_n hx hb dX11_first_0 rfl (lv_at hl 0 rfl) ?_
  rcases (show p1 = 0 ∨ p1 = 1 ∨ p1 = 2 ∨ p1 = 3 ∨ p1 = 4 ∨ p1 = 5 ∨ p1 = 6 ∨ p1 = 7 ∨ p1 = 8 ∨ p1 = 9 ∨ p1 = 10 ∨ p1 = 11 ∨ p1 = 12 ∨ p1 = 13 ∨ p1 = 14 ∨ p1 = 15 ∨ p1 = 16 by omega) with rfl | rfl | rfl | rfl | rfl | rfl | rfl | rfl | rfl | rfl | rfl | rfl | rfl | rfl | rfl | rfl | rfl
  · refine lv_tableIn (tgt := 80) hx hb dX11_first_1 (by decide) (by decide) rfl (by decide) ?_
    refine lv_bipush (v := (10 : Int32)) hx hb dX11_first_80 (by decide) ?_
    exact W.iret (v := (10 : Int32)) hx hb hr (fun t ht hW => ⟨⟨(10 : Int32), (), rfl, (rfl), ht⟩, hS.F ht⟩) hS.2.2 dX11_first_82
  · refine lv_tableIn (tgt := 83) hx hb dX11_first_1 (by decide) (by decide) rfl (by decide) ?_
    refine lv_iconst (v := (5 : Int32)) hx hb dX11_first_83 (by decide) ?_
    exact W.iret (v := (5 : Int32)) hx hb hr (fun t ht hW => ⟨⟨(5 : Int32), (), rfl, (rfl), ht⟩, hS.F ht⟩) hS.2.2 dX11_first_84
  · refine lv_tableIn (tgt := 85) hx hb dX11_first_1 (by decide) (by decide) rfl (by decide) ?_
    refine lv_iconst (v := (3 : Int32)) hx hb dX11_first_85 (by decide) ?_
    exact W.iret (v := (3 : Int32)) hx hb hr (fun t ht hW => ⟨⟨(3 : Int32), (), rfl, (rfl), ht⟩, hS.F ht⟩) hS.2.2 dX11_first_86
  · refine lv_tableIn (tgt := 87) hx hb dX11_first_1 (by decide) (by decide) rfl (by decide) ?_
    refine lv_bipush (v := (20 : Int32)) hx hb dX11_first_87 (by decide) ?_
    exact W.iret (v := (20 : Int32)) hx hb hr (fun t ht hW => ⟨⟨(20 : Int32), (), rfl, (rfl), ht⟩, hS.F ht⟩) hS.2.2 dX11_first_89
  · refine lv_tableIn (tgt := 90) hx hb dX11_first_1 (by decide) (by decide) rfl (by decide) ?_
    refine lv_sipush (v := (550 : Int32)) hx hb dX11_first_90 (by decide) ?_
    exact W.iret (v := (550 : Int32)) hx hb hr (fun t ht hW => ⟨⟨(550 : Int32), (), rfl, (rfl), ht⟩, hS.F ht⟩) hS.2.2 dX11_first_93
  · refine lv_tableIn (tgt := 94) hx hb dX11_first_1 (by decide) (by decide) rfl (by decide) ?_
    refine lv_bipush (v := (30 : Int32)) hx hb dX11_first_94 (by decide) ?_
    exact W.iret (v := (30 : Int32)) hx hb hr (fun t ht hW => ⟨⟨(30 : Int32), (), rfl, (rfl), ht⟩, hS.F ht⟩) hS.2.2 dX11_first_96
  · refine lv_tableIn (tgt := 97) hx hb dX11_first_1 (by decide) (by decide) rfl (by decide) ?_
    refine lv_sipush (v := (280 : Int32)) hx hb dX11_first_97 (by decide) ?_
    exact W.iret (v := (280 : Int32)) hx hb hr (fun t ht hW => ⟨⟨(280 : Int32), (), rfl, (rfl), ht⟩, hS.F ht⟩) hS.2.2 dX11_first_100
  · refine lv_tableIn (tgt := 101) hx hb dX11_first_1 (by decide) (by decide) rfl (by decide) ?_
    refine lv_sipush (v := (6000 : Int32)) hx hb dX11_first_101 (by decide) ?_
    exact W.iret (v := (6000 : Int32)) hx hb hr (fun t ht hW => ⟨⟨(6000 : Int32), (), rfl, (rfl), ht⟩, hS.F ht⟩) hS.2.2 dX11_first_104
  · refine lv_tableIn (tgt := 105) hx hb dX11_first_1 (by decide) (by decide) rfl (by decide) ?_
    refine lv_bipush (v := (100 : Int32)) hx hb dX11_first_105 (by decide) ?_
    exact W.iret (v := (100 : Int32)) hx hb hr (fun t ht hW => ⟨⟨(100 : Int32), (), rfl, (rfl), ht⟩, hS.F ht⟩) hS.2.2 dX11_first_107
  · refine lv_tableIn (tgt := 108) hx hb dX11_first_1 (by decide) (by decide) rfl (by decide) ?_
    refine lv_bipush (v := (50 : Int32)) hx hb dX11_first_108 (by decide) ?_
    exact W.iret (v := (50 : Int32)) hx hb hr (fun t ht hW => ⟨⟨(50 : Int32), (), rfl, (rfl), ht⟩, hS.F ht⟩) hS.2.2 dX11_first_110
  · refine lv_tableIn (tgt := 111) hx hb dX11_first_1 (by decide) (by decide) rfl (by decide) ?_
    refine lv_bipush (v := (45 : Int32)) hx hb dX11_first_111 (by decide) ?_
    exact W.iret (v := (45 : Int32)) hx hb hr (fun t ht hW => ⟨⟨(45 : Int32), (), rfl, (rfl), ht⟩, hS.F ht⟩) hS.2.2 dX11_first_113
  · refine lv_tableIn (tgt := 114) hx hb dX11_first_1 (by decide) (by decide) rfl (by decide) ?_
    refine lv_bipush (v := (6 : Int32)) hx hb dX11_first_114 (by decide) ?_
    exact W.iret (v := (6 : Int32)) hx hb hr (fun t ht hW => ⟨⟨(6 : Int32), (), rfl, (rfl), ht⟩, hS.F ht⟩) hS.2.2 dX11_first_116
  · refine lv_tableIn (tgt := 117) hx hb dX11_first_1 (by decide) (by decide) rfl (by decide) ?_
    refine lv_sipush (v := (3000 : Int32)) hx hb dX11_first_117 (by decide) ?_
    exact W.iret (v := (3000 : Int32)) hx hb hr (fun t ht hW => ⟨⟨(3000 : Int32), (), rfl, (rfl), ht⟩, hS.F ht⟩) hS.2.2 dX11_first_120
  · refine lv_tableIn (tgt := 121) hx hb dX11_first_1 (by decide) (by decide) rfl (by decide) ?_
    refine lv_iconst (v := (2 : Int32)) hx hb dX11_first_121 (by decide) ?_
    exact W.iret (v := (2 : Int32)) hx hb hr (fun t ht hW => ⟨⟨(2 : Int32), (), rfl, (rfl), ht⟩, hS.F ht⟩) hS.2.2 dX11_first_122
  · refine lv_tableIn (tgt := 87) hx hb dX11_first_1 (by decide) (by decide) rfl (by decide) ?_
    refine lv_bipush (v := (20 : Int32)) hx hb dX11_first_87 (by decide) ?_
    exact W.iret (v := (20 : Int32)) hx hb hr (fun t ht hW => ⟨⟨(20 : Int32), (), rfl, (rfl), ht⟩, hS.F ht⟩) hS.2.2 dX11_first_89
  · refine lv_tableIn (tgt := 123) hx hb dX11_first_1 (by decide) (by decide) rfl (by decide) ?_
    refine lv_sipush (v := (200 : Int32)) hx hb dX11_first_123 (by decide) ?_
    exact W.iret (v := (200 : Int32)) hx hb hr (fun t ht hW => ⟨⟨(200 : Int32), (), rfl, (rfl), ht⟩, hS.F ht⟩) hS.2.2 dX11_first_126
  · refine lv_tableOut (tgt := 127) hx hb dX11_first_1 (by decide) (by decide) ?_
    refine lv_sipush (v := (150 : Int32)) hx hb dX11_first_127 (by decide) ?_
    exact W.iret (v := (150 : Int32)) hx hb hr (fun t ht hW => ⟨⟨(150 : Int32), (), rfl, (rfl), ht⟩, hS.F ht⟩) hS.2.2 dX11_first_130
def F11_copies (x1 : (Nat → Int64)) (p1 : Nat) (p2 : Nat) : (Nat → Int64) := (w_ms x1 p1 p2 174)
set_option maxHeartbeats 4000000 in
set_option maxRecDepth 100000 in
theorem m11_copies (l : Launch) (D : va_G) (cI cL cP : ClassId) (b0 : Nat) (b1 : Nat) (b2 : Nat) (x0 : MoN) (x1 : (Nat → Int64)) (p1 : Nat) (p2 : Nat) (hp : p1 + 174 ≤ 1044) (hq : p2 + 174 ≤ 1044) (hd : p2 ≤ p1 ∨ p1 + 174 ≤ p2) (sz : Nat) : Met l yX11_copies wsX11_copies ({ frames := 0, cells := 0, slots := 0, locals := 0 }) (va_Pc [.ref b0, .int (nI p1), .int (nI p2)] (pM D cI cL cP sz (wF [gN b0 b2 b1 x0, gR cL b2 x1]))) (va_Qv (fun (w : (Nat → Int64)) => w = F11_copies x1 p1 p2) (qW D (va_A (wF [gN b0 b2 b1 x0, gR cL b2 x1]) sz) (fun w : (Nat → Int64) => (wF [gN b0 b2 b1 x0, gR cL b2 w]))) (va_A (wF [gN b0 b2 b1 x0, gR cL b2 x1]) sz)) 0 0 (va_A (wF [gN b0 b2 b1 x0, gR cL b2 x1]) sz) := by
  refine Met.ofW (cc := cX11_copies) (maxL := 4) (ret := none) (by decide) rfl ?_
  intro p e s m args below meth c s₁ B hml hv
  obtain ⟨rfl, hsz, hP, hQ, hD0⟩ := hv
  have hx := B.exec
  have hb := B.bytes
  have hr := B.returns
  have hts := atoms_spec (ws := wsX11_copies) B.pre
  have hown : s.vm.findClass RX11 = some m.cls := findClass_of_methodNamed B.named
  have hlocks := B.notSynchronized
  subst hsz
  have hD := hD0.self (sz := s.heap.size)
  generalize hAe : va_A (wF [gN b0 b2 b1 x0, gR cL b2 x1]) s.heap.size = A at hD ⊢
  have hA : ∀ q : Nat, s.heap.size ≤ q → A q := fun q h => by rw [← hAe]; exact Or.inr h
  have hS : va_S A s.heap s.heap [] := va_S.rf
  have hP : va_P D vwCl (wF [gN b0 b2 b1 x0, gR cL b2 x1]) s.heap := hP
  have hl := lv_entry ([.ref b0, .int (nI p1), .int (nI p2)]) (n := 4) (Nat.le_of_ble_eq_true rfl)
  rw [lg_entry_eq]
  generalize (lg_sl ([.ref b0, .int (nI p1), .int (nI p2)]) ++ List.replicate (4 - (lg_sl ([.ref b0, .int (nI p1), .int (nI p2)])).length) Slot.unset).toArray = ls at hl ⊢
  have hl : lv_has ls 4 [(0, .ref b0), (1, .int (nI p1)), (2, .int (nI p2))] := hl
  have hinX11 : ∀ w ∈ wsX110, w ∈ wsX11_copies := fun _ h => List.mem_cons_of_mem _ (List.mem_append_right _ h)
  refine lv_iconst (v := (0 : Int32)) hx hb dX11_copies_0 (by decide) ?_
  refine lv_istore_n (lv' := [(3, .int (0 : Int32)), (0, .ref b0), (1, .int (nI p1)), (2, .int (nI p2))]) hx hb dX11_copies_1 rfl hl (by decide) rfl (fun ls hl => ?_)
  rw [show x1 = (w_ms x1 p1 p2 0) from (w_ms0 x1 p1 p2)] at hP hD
  have loop2 : ∀ (fu : Nat) (i : Nat) (hi : i ≤ 174) (hm : 174 - i < fu) , ∀ (H : Heap) (locs : List Loc) (_ : va_P D vwCl (wF [gN b0 b2 b1 x0, gR cL b2 (w_ms x1 p1 p2 i)]) H) (_ : va_D A (wF [gN b0 b2 b1 x0, gR cL b2 (w_ms x1 p1 p2 i)])) (_ : va_S A s.heap H locs) (ls : Array Slot) (_ : lv_has ls 4 [(3, .int (nI i)), (0, .ref b0), (1, .int (nI p1)), (2, .int (nI p2))]), W p l e (headSpec wsX11_copies ({ frames := 0, cells := 0, slots := 0, locals := 0 })).room s m #[.ref b0, .int (nI p1), .int (nI p2)] below meth c H locs 0 0 (MQ below (va_Qv (fun (w : (Nat → Int64)) => w = F11_copies x1 p1 p2) (qW D A (fun w : (Nat → Int64) => (wF [gN b0 b2 b1 x0, gR cL b2 w]))) A) #[.ref b0, .int (nI p1), .int (nI p2)] s 0 0 A) (F0 m 2 ls []) := by
    intro fu
    induction fu with
    | zero => intro i hi hm; exact absurd hm (by omega)
    | succ fu ih =>
      intro i hi hm  H locs hP hD hS ls hl
      refine lv_iload_n hx hb dX11_copies_2 rfl (lv_at hl 0 rfl) ?_
      refine lv_sipush (v := (174 : Int32)) hx hb dX11_copies_3 (by decide) ?_
      refine lv_icmp_ge (tgt := 31) hx hb dX11_copies_6 (by decide) (fun c1 => ?_) (fun c1 => ?_)
      · have c1 : 174 ≤ i := (nI_leI (a := 174) (b := i) (by omega) (by omega)).mp c1
        obtain rfl : i = 174 := by omega
        exact W.vret hx hb hr (fun t ht hW => ⟨⟨(w_ms x1 p1 p2 174), rfl, (rfl), by rw [ht]; exact hP, hD⟩, hS.F ht⟩) hS.2.2 dX11_copies_31
      · have c1 : ¬ (174 ≤ i) := fun h9 => c1 ((nI_leI (a := 174) (b := i) (by omega) (by omega)).mpr h9)
        refine lv_aload_n hx hb dX11_copies_9 rfl (lv_at hl 1 rfl) ?_
        refine va_get (D := D) (ci := 11) (v := .ref b2) (C := RX11) (T := TX11) (N := 10) hx hb hts hinX11 hown hQ.1 hP 0 rfl rfl 0 (by decide) (hts (.fieldLink RX11 7 "HeatPumpPlantModel" "row" "[J") (List.mem_of_getElem? (i := 1) rfl)) (fun _ h9 => h9) rfl dX11_copies_10 ?_
        refine lv_iload_n hx hb dX11_copies_13 rfl (lv_at hl 3 rfl) ?_
        refine lv_iload_n hx hb dX11_copies_14 rfl (lv_at hl 0 rfl) ?_
        refine lv_iadd hx hb dX11_copies_15 ?_
        refine lv_aload_n hx hb dX11_copies_16 rfl (lv_at hl 1 rfl) ?_
        refine va_get (D := D) (ci := 11) (v := .ref b2) (C := RX11) (T := TX11) (N := 10) hx hb hts hinX11 hown hQ.1 hP 0 rfl rfl 0 (by decide) (hts (.fieldLink RX11 7 "HeatPumpPlantModel" "row" "[J") (List.mem_of_getElem? (i := 1) rfl)) (fun _ h9 => h9) rfl dX11_copies_17 ?_
        refine lv_iload_n hx hb dX11_copies_20 rfl (lv_at hl 2 rfl) ?_
        refine lv_iload_n hx hb dX11_copies_21 rfl (lv_at hl 0 rfl) ?_
        refine lv_iadd hx hb dX11_copies_22 ?_
        refine w_lald (f := (w_ms x1 p1 p2 i)) (j := (p1 + i)) hx hb hQ.1 hP 1 1 rfl rfl (nI_add p1 i) (by omega) (by decide) dX11_copies_23 ?_
        refine w_last (f := (w_ms x1 p1 p2 i)) (j := (p2 + i)) hx hb hQ.1 hP hD hS 1 1 rfl rfl (nI_add p2 i) (by omega) (by decide) dX11_copies_24 (fun H locs hP hD hS => ?_)
        have hP : va_P D vwCl (wF [gN b0 b2 b1 x0, gR cL b2 (vp_updL (w_ms x1 p1 p2 i) (p2 + i) ((w_ms x1 p1 p2 i) (p1 + i)))]) H := hP
        have hD : va_D A (wF [gN b0 b2 b1 x0, gR cL b2 (vp_updL (w_ms x1 p1 p2 i) (p2 + i) ((w_ms x1 p1 p2 i) (p1 + i)))]) := hD
        refine lv_iinc (v := (nI (i + 1))) (lv' := [(3, .int (nI (i + 1))), (0, .ref b0), (1, .int (nI p1)), (2, .int (nI p2))]) hx hb dX11_copies_25 hl (k := 0) rfl (nI_add i 1) (by decide) rfl (fun ls hl => ?_)
        refine lv_goto (tgt := 2) hx hb dX11_copies_28 (by decide) ?_
        rw [show (vp_updL (w_ms x1 p1 p2 i) (p2 + i) ((w_ms x1 p1 p2 i) (p1 + i))) = (w_ms x1 p1 p2 (i + 1)) from (w_ms1 x1 (by omega))] at hP hD
        have hP : va_P D vwCl (wF [gN b0 b2 b1 x0, gR cL b2 (w_ms x1 p1 p2 (i + 1))]) H := hP
        have hD : va_D A (wF [gN b0 b2 b1 x0, gR cL b2 (w_ms x1 p1 p2 (i + 1))]) := hD
        exact ih (i + 1) (by omega) (by omega)  H locs hP hD hS ls (lv_sub hl [0, 1, 2, 3] rfl)
  have hP : va_P D vwCl (wF [gN b0 b2 b1 x0, gR cL b2 (w_ms x1 p1 p2 0)]) s.heap := hP
  have hD : va_D A (wF [gN b0 b2 b1 x0, gR cL b2 (w_ms x1 p1 p2 0)]) := hD
  exact loop2 175 0 (by omega) (by omega)  s.heap [] hP hD hS ls (lv_sub hl [0, 1, 2, 3] rfl)
def K11_records_1 (x0 : MoN) (x1 : (Nat → Int64)) (z2 : (Nat → Int64)) : Int32 × MoN × (Nat → Int64) := ((nI (x0.1 + 1)), (((x0.1 + 1), x0.2.1, x0.2.2.1, x0.2.2.2.1, x0.2.2.2.2.1, x0.2.2.2.2.2.1, x0.2.2.2.2.2.2.1, x0.2.2.2.2.2.2.2), z2))
def K11_records_5 (x0 : MoN) (x1 : (Nat → Int64)) (z4 : (Nat → Int64)) (z6 : (Nat → Int64)) (z8 : (Nat → Int64)) (z10 : (Nat → Int64)) : Int32 × MoN × (Nat → Int64) := ((nI ((x0.1 - 1) + 1)), ((((x0.1 - 1) + 1), x0.2.1, x0.2.2.1, x0.2.2.2.1, x0.2.2.2.2.1, x0.2.2.2.2.2.1, x0.2.2.2.2.2.2.1, x0.2.2.2.2.2.2.2), z10))
def K11_records_4 (x0 : MoN) (x1 : (Nat → Int64)) (z4 : (Nat → Int64)) (z6 : (Nat → Int64)) (z8 : (Nat → Int64)) : Int32 × MoN × (Nat → Int64) := (K11_records_5 x0 x1 z4 z6 z8 (F11_copies z8 0 (174 * ((x0.1 - 1) + 1))))
def K11_records_3 (x0 : MoN) (x1 : (Nat → Int64)) (z4 : (Nat → Int64)) (z6 : (Nat → Int64)) : Int32 × MoN × (Nat → Int64) := (K11_records_4 x0 x1 z4 z6 (F11_copies z6 696 522))
def K11_records_2 (x0 : MoN) (x1 : (Nat → Int64)) (z4 : (Nat → Int64)) : Int32 × MoN × (Nat → Int64) := (K11_records_3 x0 x1 z4 (F11_copies z4 522 348))
def F11_records (x0 : MoN) (x1 : (Nat → Int64)) : Int32 × MoN × (Nat → Int64) := (if x0.1 = 4 then (K11_records_2 x0 x1 (F11_copies x1 348 174)) else (K11_records_1 x0 x1 (F11_copies x1 0 (174 * (x0.1 + 1)))))
set_option maxHeartbeats 4000000 in
set_option maxRecDepth 100000 in
theorem m11_records (l : Launch) (D : va_G) (cI cL cP : ClassId) (b0 : Nat) (b1 : Nat) (b2 : Nat) (x0 : MoN) (x1 : (Nat → Int64)) (hk : x0.1 ≤ 4) (sz : Nat) : Met l yX11_records wsX11_records ({ frames := 1, cells := 0, slots := 0, locals := 23 }) (va_Pc [.ref b0] (pM D cI cL cP sz (wF [gN b0 b2 b1 x0, gR cL b2 x1]))) (va_Qi (fun (r : Int32) (w : MoN × (Nat → Int64)) => (r, w) = F11_records x0 x1) (qW D (va_A (wF [gN b0 b2 b1 x0, gR cL b2 x1]) sz) (fun w : MoN × (Nat → Int64) => (wF [gN b0 b2 b1 w.1, gR cL b2 w.2]))) (va_A (wF [gN b0 b2 b1 x0, gR cL b2 x1]) sz)) 0 0 (va_A (wF [gN b0 b2 b1 x0, gR cL b2 x1]) sz) := by
  refine Met.ofW (cc := cX11_records) (maxL := 2) (ret := (some .int)) (by decide) rfl ?_
  intro p e s m args below meth c s₁ B hml hv
  obtain ⟨rfl, hsz, hP, hQ, hD0⟩ := hv
  have hx := B.exec
  have hb := B.bytes
  have hr := B.returns
  have hts := atoms_spec (ws := wsX11_records) B.pre
  have hown : s.vm.findClass RX11 = some m.cls := findClass_of_methodNamed B.named
  have hlocks := B.notSynchronized
  subst hsz
  have hD := hD0.self (sz := s.heap.size)
  generalize hAe : va_A (wF [gN b0 b2 b1 x0, gR cL b2 x1]) s.heap.size = A at hD ⊢
  have hA : ∀ q : Nat, s.heap.size ≤ q → A q := fun q h => by rw [← hAe]; exact Or.inr h
  have hS : va_S A s.heap s.heap [] := va_S.rf
  have hP : va_P D vwCl (wF [gN b0 b2 b1 x0, gR cL b2 x1]) s.heap := hP
  have hl := lv_entry ([.ref b0]) (n := 2) (Nat.le_of_ble_eq_true rfl)
  rw [lg_entry_eq]
  generalize (lg_sl ([.ref b0]) ++ List.replicate (2 - (lg_sl ([.ref b0])).length) Slot.unset).toArray = ls at hl ⊢
  have hl : lv_has ls 2 [(0, .ref b0)] := hl
  have hinX11 : ∀ w ∈ wsX110, w ∈ wsX11_records := fun _ h => List.mem_cons_of_mem _ (List.mem_append_right _ h)
  refine lv_aload_n hx hb dX11_records_0 rfl (lv_at hl 0 rfl) ?_
  refine va_get (D := D) (ci := 11) (v := .int (nI x0.1)) (C := RX11) (T := TX11) (N := 10) hx hb hts hinX11 hown hQ.1 hP 0 rfl rfl 1 (by decide) (hts (.fieldLink RX11 47 "HeatPumpPlantModel" "kept" "I") (List.mem_of_getElem? (i := 1) rfl)) (fun _ h9 => h9) rfl dX11_records_1 ?_
  refine lv_iconst (v := (4 : Int32)) hx hb dX11_records_4 (by decide) ?_
  refine lv_icmp_ne (tgt := 47) hx hb dX11_records_5 (by decide) (fun c1 => ?_) (fun c1 => ?_)
  · have c1 : ¬ (x0.1 = 4) := fun h9 => c1 ((nI_eq (a := x0.1) (b := 4) (by omega) (by omega)).mpr h9)
    refine lv_aload_n hx hb dX11_records_47 rfl (lv_at hl 0 rfl) ?_
    refine lv_dup hx hb dX11_records_48 rfl ?_
    refine va_get (D := D) (ci := 11) (v := .int (nI x0.1)) (C := RX11) (T := TX11) (N := 10) hx hb hts hinX11 hown hQ.1 hP 0 rfl rfl 1 (by decide) (hts (.fieldLink RX11 47 "HeatPumpPlantModel" "kept" "I") (List.mem_of_getElem? (i := 1) rfl)) (fun _ h9 => h9) rfl dX11_records_49 ?_
    refine lv_iconst (v := (1 : Int32)) hx hb dX11_records_52 (by decide) ?_
    refine lv_iadd hx hb dX11_records_53 ?_
    refine va_put (D := D) (ci := 11) (v := .int ((nI x0.1) + (1 : Int32))) (ty := .int) (C := RX11) (T := TX11) (N := 10) hx hb hts hinX11 tyX11 tyX11_ok nmX11 hown hQ.1 hP hD hS 0 rfl rfl 1 (by decide) (hts (.fieldLink RX11 47 "HeatPumpPlantModel" "kept" "I") (List.mem_of_getElem? (i := 1) rfl)) (fun _ h9 => h9) rfl (by decide +kernel) rfl rfl (Nat.le_of_ble_eq_true rfl) dX11_records_54 (fun H locs hP hD hS => ?_)
    rw [show ((nI x0.1) + (1 : Int32)) = nI (x0.1 + 1) from ((congr (congrArg HAdd.hAdd (show (nI x0.1) = nI x0.1 from rfl)) (show (1 : Int32) = nI 1 from (rfl : (1 : Int32) = nI 1))).trans (nI_add x0.1 1))] at hP hD
    have hP : va_P D vwCl (wF [gN b0 b2 b1 ((x0.1 + 1), x0.2.1, x0.2.2.1, x0.2.2.2.1, x0.2.2.2.2.1, x0.2.2.2.2.2.1, x0.2.2.2.2.2.2.1, x0.2.2.2.2.2.2.2), gR cL b2 x1]) H := hP
    have hD : va_D A (wF [gN b0 b2 b1 ((x0.1 + 1), x0.2.1, x0.2.2.1, x0.2.2.2.1, x0.2.2.2.2.1, x0.2.2.2.2.2.1, x0.2.2.2.2.2.2.1, x0.2.2.2.2.2.2.2), gR cL b2 x1]) := hD
    refine lv_aload_n hx hb dX11_records_57 rfl (lv_at hl 0 rfl) ?_
    refine lv_iconst (v := (0 : Int32)) hx hb dX11_records_58 (by decide) ?_
    refine lv_sipush (v := (174 : Int32)) hx hb dX11_records_59 (by decide) ?_
    refine lv_aload_n hx hb dX11_records_62 rfl (lv_at hl 0 rfl) ?_
    refine va_get (D := D) (ci := 11) (v := .int (nI (x0.1 + 1))) (C := RX11) (T := TX11) (N := 10) hx hb hts hinX11 hown hQ.1 hP 0 rfl rfl 1 (by decide) (hts (.fieldLink RX11 47 "HeatPumpPlantModel" "kept" "I") (List.mem_of_getElem? (i := 1) rfl)) (fun _ h9 => h9) rfl dX11_records_63 ?_
    refine lv_imul hx hb dX11_records_66 ?_
    refine w_topn (174 * (x0.1 + 1)) ((congr (congrArg HMul.hMul (show (174 : Int32) = nI 174 from (rfl : (174 : Int32) = nI 174))) (show (nI (x0.1 + 1)) = nI (x0.1 + 1) from rfl)).trans (pk_mul 174 (x0.1 + 1))) ?_
    have hPc : va_P D vwCl (wF [gN b0 b2 b1 ((x0.1 + 1), x0.2.1, x0.2.2.1, x0.2.2.2.1, x0.2.2.2.2.1, x0.2.2.2.2.2.1, x0.2.2.2.2.2.2.1, x0.2.2.2.2.2.2.2), gR cL b2 x1]) H := w_psub hP [0, 1] rfl
    have hDc : va_D A (wF [gN b0 b2 b1 ((x0.1 + 1), x0.2.1, x0.2.2.1, x0.2.2.2.1, x0.2.2.2.2.1, x0.2.2.2.2.2.1, x0.2.2.2.2.2.2.1, x0.2.2.2.2.2.2.2), gR cL b2 x1]) := w_gsub hD [0, 1] rfl rfl
    refine c_Mv (F := F11_copies x1 0 (174 * (x0.1 + 1))) (G1 := (fun w => [gN b0 b2 b1 ((x0.1 + 1), x0.2.1, x0.2.2.1, x0.2.2.2.1, x0.2.2.2.2.1, x0.2.2.2.2.2.1, x0.2.2.2.2.2.2.1, x0.2.2.2.2.2.2.2), gR cL b2 w])) (Gr := []) (Gs' := fun z2 => [gN b0 b2 b1 ((x0.1 + 1), x0.2.1, x0.2.2.1, x0.2.2.2.1, x0.2.2.2.2.1, x0.2.2.2.2.2.1, x0.2.2.2.2.2.2.1, x0.2.2.2.2.2.2.2), gR cL b2 z2]) (va_runV (As := [.int (nI 0), .int (nI (174 * (x0.1 + 1)))]) (rest := []) ⟨hx, hb, hml, hown, hts⟩ (m11_copies l D cI cL cP b0 b1 b2 ((x0.1 + 1), x0.2.1, x0.2.2.1, x0.2.2.2.1, x0.2.2.2.2.1, x0.2.2.2.2.2.1, x0.2.2.2.2.2.2.1, x0.2.2.2.2.2.2.2) x1 0 (174 * (x0.1 + 1)) (by omega) (by omega) (by omega) H.size) (cwV 2 hts gX11_records_X11_copies rfl rfl rfl (by decide +kernel) ⟨Nat.le_of_ble_eq_true rfl, Nat.le_of_ble_eq_true rfl⟩) (preM_V (q := (RX11, TX11, 10)) (q0 := 0) hQ hPc hDc rfl rfl) rfl rfl hl.1 rfl (lv_room (Nat.le_of_ble_eq_true rfl)) dX11_records_67 ⟨Nat.le_of_ble_eq_true rfl, Nat.le_of_ble_eq_true rfl⟩) hS hA hP hD [0, 1] [] [0, 1] rfl rfl rfl rfl rfl (fun _ => rfl) (fun z2 H locs hz2 hP hD hS => ?_)
    have hP : va_P D vwCl (wF [gN b0 b2 b1 ((x0.1 + 1), x0.2.1, x0.2.2.1, x0.2.2.2.1, x0.2.2.2.2.1, x0.2.2.2.2.2.1, x0.2.2.2.2.2.2.1, x0.2.2.2.2.2.2.2), gR cL b2 z2]) H := hP
    have hD : va_D A (wF [gN b0 b2 b1 ((x0.1 + 1), x0.2.1, x0.2.2.1, x0.2.2.2.1, x0.2.2.2.2.1, x0.2.2.2.2.2.1, x0.2.2.2.2.2.2.1, x0.2.2.2.2.2.2.2), gR cL b2 z2]) := hD
    refine lv_aload_n hx hb dX11_records_70 rfl (lv_at hl 0 rfl) ?_
    refine va_get (D := D) (ci := 11) (v := .int (nI (x0.1 + 1))) (C := RX11) (T := TX11) (N := 10) hx hb hts hinX11 hown hQ.1 hP 0 rfl rfl 1 (by decide) (hts (.fieldLink RX11 47 "HeatPumpPlantModel" "kept" "I") (List.mem_of_getElem? (i := 1) rfl)) (fun _ h9 => h9) rfl dX11_records_71 ?_
    exact W.iret (v := (nI (x0.1 + 1))) hx hb hr (fun t ht hW => ⟨⟨(nI (x0.1 + 1)), (((x0.1 + 1), x0.2.1, x0.2.2.1, x0.2.2.2.1, x0.2.2.2.2.1, x0.2.2.2.2.2.1, x0.2.2.2.2.2.2.1, x0.2.2.2.2.2.2.2), z2), rfl, ((Eq.trans (if_neg c1) (Eq.trans (congrArg (K11_records_1 x0 x1) hz2.symm) (rfl))).symm), by rw [ht]; exact hP, hD⟩, hS.F ht⟩) hS.2.2 dX11_records_74
  · have c1 : x0.1 = 4 := (nI_eq (a := x0.1) (b := 4) (by omega) (by omega)).mp c1
    refine lv_iconst (v := (1 : Int32)) hx hb dX11_records_8 (by decide) ?_
    refine lv_istore_n (lv' := [(1, .int (1 : Int32)), (0, .ref b0)]) hx hb dX11_records_9 rfl hl (by decide) rfl (fun ls hl => ?_)
    refine lv_iload_n hx hb dX11_records_10 rfl (lv_at hl 0 rfl) ?_
    refine lv_iconst (v := (4 : Int32)) hx hb dX11_records_11 (by decide) ?_
    refine lv_icmp_ge (tgt := 37) hx hb dX11_records_12 (by decide) (fun c3 => absurd c3 (by decide)) (fun _ => ?_)
    refine lv_aload_n hx hb dX11_records_15 rfl (lv_at hl 1 rfl) ?_
    refine lv_sipush (v := (174 : Int32)) hx hb dX11_records_16 (by decide) ?_
    refine lv_iload_n hx hb dX11_records_19 rfl (lv_at hl 0 rfl) ?_
    refine lv_iconst (v := (1 : Int32)) hx hb dX11_records_20 (by decide) ?_
    refine lv_iadd hx hb dX11_records_21 ?_
    refine lv_imul hx hb dX11_records_22 ?_
    refine lv_sipush (v := (174 : Int32)) hx hb dX11_records_23 (by decide) ?_
    refine lv_iload_n hx hb dX11_records_26 rfl (lv_at hl 0 rfl) ?_
    refine lv_imul hx hb dX11_records_27 ?_
    have hPc : va_P D vwCl (wF [gN b0 b2 b1 x0, gR cL b2 x1]) s.heap := w_psub hP [0, 1] rfl
    have hDc : va_D A (wF [gN b0 b2 b1 x0, gR cL b2 x1]) := w_gsub hD [0, 1] rfl rfl
    refine c_Mv (F := F11_copies x1 348 174) (G1 := (fun w => [gN b0 b2 b1 x0, gR cL b2 w])) (Gr := []) (Gs' := fun z4 => [gN b0 b2 b1 x0, gR cL b2 z4]) (va_runV (As := [.int (nI 348), .int (nI 174)]) (rest := []) ⟨hx, hb, hml, hown, hts⟩ (m11_copies l D cI cL cP b0 b1 b2 x0 x1 348 174 (by omega) (by omega) (by omega) s.heap.size) (cwV 2 hts gX11_records_X11_copies rfl rfl rfl (by decide +kernel) ⟨Nat.le_of_ble_eq_true rfl, Nat.le_of_ble_eq_true rfl⟩) (preM_V (q := (RX11, TX11, 10)) (q0 := 0) hQ hPc hDc rfl rfl) rfl rfl hl.1 rfl (lv_room (Nat.le_of_ble_eq_true rfl)) dX11_records_28 ⟨Nat.le_of_ble_eq_true rfl, Nat.le_of_ble_eq_true rfl⟩) hS hA hP hD [0, 1] [] [0, 1] rfl rfl rfl rfl rfl (fun _ => rfl) (fun z4 H locs hz4 hP hD hS => ?_)
    have hP : va_P D vwCl (wF [gN b0 b2 b1 x0, gR cL b2 z4]) H := hP
    have hD : va_D A (wF [gN b0 b2 b1 x0, gR cL b2 z4]) := hD
    refine lv_iinc (v := (2 : Int32)) (lv' := [(1, .int (2 : Int32)), (0, .ref b0)]) hx hb dX11_records_31 hl (k := 0) rfl (by decide) (by decide) rfl (fun ls hl => ?_)
    refine lv_goto (tgt := 10) hx hb dX11_records_34 (by decide) ?_
    refine lv_iload_n hx hb dX11_records_10 rfl (lv_at hl 0 rfl) ?_
    refine lv_iconst (v := (4 : Int32)) hx hb dX11_records_11 (by decide) ?_
    refine lv_icmp_ge (tgt := 37) hx hb dX11_records_12 (by decide) (fun c5 => absurd c5 (by decide)) (fun _ => ?_)
    refine lv_aload_n hx hb dX11_records_15 rfl (lv_at hl 1 rfl) ?_
    refine lv_sipush (v := (174 : Int32)) hx hb dX11_records_16 (by decide) ?_
    refine lv_iload_n hx hb dX11_records_19 rfl (lv_at hl 0 rfl) ?_
    refine lv_iconst (v := (1 : Int32)) hx hb dX11_records_20 (by decide) ?_
    refine lv_iadd hx hb dX11_records_21 ?_
    refine lv_imul hx hb dX11_records_22 ?_
    refine lv_sipush (v := (174 : Int32)) hx hb dX11_records_23 (by decide) ?_
    refine lv_iload_n hx hb dX11_records_26 rfl (lv_at hl 0 rfl) ?_
    refine lv_imul hx hb dX11_records_27 ?_
    have hPc : va_P D vwCl (wF [gN b0 b2 b1 x0, gR cL b2 z4]) H := w_psub hP [0, 1] rfl
    have hDc : va_D A (wF [gN b0 b2 b1 x0, gR cL b2 z4]) := w_gsub hD [0, 1] rfl rfl
    refine c_Mv (F := F11_copies z4 522 348) (G1 := (fun w => [gN b0 b2 b1 x0, gR cL b2 w])) (Gr := []) (Gs' := fun z6 => [gN b0 b2 b1 x0, gR cL b2 z6]) (va_runV (As := [.int (nI 522), .int (nI 348)]) (rest := []) ⟨hx, hb, hml, hown, hts⟩ (m11_copies l D cI cL cP b0 b1 b2 x0 z4 522 348 (by omega) (by omega) (by omega) H.size) (cwV 2 hts gX11_records_X11_copies rfl rfl rfl (by decide +kernel) ⟨Nat.le_of_ble_eq_true rfl, Nat.le_of_ble_eq_true rfl⟩) (preM_V (q := (RX11, TX11, 10)) (q0 := 0) hQ hPc hDc rfl rfl) rfl rfl hl.1 rfl (lv_room (Nat.le_of_ble_eq_true rfl)) dX11_records_28 ⟨Nat.le_of_ble_eq_true rfl, Nat.le_of_ble_eq_true rfl⟩) hS hA hP hD [0, 1] [] [0, 1] rfl rfl rfl rfl rfl (fun _ => rfl) (fun z6 H locs hz6 hP hD hS => ?_)
    have hP : va_P D vwCl (wF [gN b0 b2 b1 x0, gR cL b2 z6]) H := hP
    have hD : va_D A (wF [gN b0 b2 b1 x0, gR cL b2 z6]) := hD
    refine lv_iinc (v := (3 : Int32)) (lv' := [(1, .int (3 : Int32)), (0, .ref b0)]) hx hb dX11_records_31 hl (k := 0) rfl (by decide) (by decide) rfl (fun ls hl => ?_)
    refine lv_goto (tgt := 10) hx hb dX11_records_34 (by decide) ?_
    refine lv_iload_n hx hb dX11_records_10 rfl (lv_at hl 0 rfl) ?_
    refine lv_iconst (v := (4 : Int32)) hx hb dX11_records_11 (by decide) ?_
    refine lv_icmp_ge (tgt := 37) hx hb dX11_records_12 (by decide) (fun c7 => absurd c7 (by decide)) (fun _ => ?_)
    refine lv_aload_n hx hb dX11_records_15 rfl (lv_at hl 1 rfl) ?_
    refine lv_sipush (v := (174 : Int32)) hx hb dX11_records_16 (by decide) ?_
    refine lv_iload_n hx hb dX11_records_19 rfl (lv_at hl 0 rfl) ?_
    refine lv_iconst (v := (1 : Int32)) hx hb dX11_records_20 (by decide) ?_
    refine lv_iadd hx hb dX11_records_21 ?_
    refine lv_imul hx hb dX11_records_22 ?_
    refine lv_sipush (v := (174 : Int32)) hx hb dX11_records_23 (by decide) ?_
    refine lv_iload_n hx hb dX11_records_26 rfl (lv_at hl 0 rfl) ?_
    refine lv_imul hx hb dX11_records_27 ?_
    have hPc : va_P D vwCl (wF [gN b0 b2 b1 x0, gR cL b2 z6]) H := w_psub hP [0, 1] rfl
    have hDc : va_D A (wF [gN b0 b2 b1 x0, gR cL b2 z6]) := w_gsub hD [0, 1] rfl rfl
    refine c_Mv (F := F11_copies z6 696 522) (G1 := (fun w => [gN b0 b2 b1 x0, gR cL b2 w])) (Gr := []) (Gs' := fun z8 => [gN b0 b2 b1 x0, gR cL b2 z8]) (va_runV (As := [.int (nI 696), .int (nI 522)]) (rest := []) ⟨hx, hb, hml, hown, hts⟩ (m11_copies l D cI cL cP b0 b1 b2 x0 z6 696 522 (by omega) (by omega) (by omega) H.size) (cwV 2 hts gX11_records_X11_copies rfl rfl rfl (by decide +kernel) ⟨Nat.le_of_ble_eq_true rfl, Nat.le_of_ble_eq_true rfl⟩) (preM_V (q := (RX11, TX11, 10)) (q0 := 0) hQ hPc hDc rfl rfl) rfl rfl hl.1 rfl (lv_room (Nat.le_of_ble_eq_true rfl)) dX11_records_28 ⟨Nat.le_of_ble_eq_true rfl, Nat.le_of_ble_eq_true rfl⟩) hS hA hP hD [0, 1] [] [0, 1] rfl rfl rfl rfl rfl (fun _ => rfl) (fun z8 H locs hz8 hP hD hS => ?_)
    have hP : va_P D vwCl (wF [gN b0 b2 b1 x0, gR cL b2 z8]) H := hP
    have hD : va_D A (wF [gN b0 b2 b1 x0, gR cL b2 z8]) := hD
    refine lv_iinc (v := (4 : Int32)) (lv' := [(1, .int (4 : Int32)), (0, .ref b0)]) hx hb dX11_records_31 hl (k := 0) rfl (by decide) (by decide) rfl (fun ls hl => ?_)
    refine lv_goto (tgt := 10) hx hb dX11_records_34 (by decide) ?_
    refine lv_iload_n hx hb dX11_records_10 rfl (lv_at hl 0 rfl) ?_
    refine lv_iconst (v := (4 : Int32)) hx hb dX11_records_11 (by decide) ?_
    refine lv_icmp_ge (tgt := 37) hx hb dX11_records_12 (by decide) (fun _ => ?_) (fun c9 => absurd c9 (by decide))
    refine lv_aload_n hx hb dX11_records_37 rfl (lv_at hl 1 rfl) ?_
    refine lv_dup hx hb dX11_records_38 rfl ?_
    refine va_get (D := D) (ci := 11) (v := .int (nI x0.1)) (C := RX11) (T := TX11) (N := 10) hx hb hts hinX11 hown hQ.1 hP 0 rfl rfl 1 (by decide) (hts (.fieldLink RX11 47 "HeatPumpPlantModel" "kept" "I") (List.mem_of_getElem? (i := 1) rfl)) (fun _ h9 => h9) rfl dX11_records_39 ?_
    refine lv_iconst (v := (1 : Int32)) hx hb dX11_records_42 (by decide) ?_
    refine lv_isub hx hb dX11_records_43 ?_
    refine va_put (D := D) (ci := 11) (v := .int ((nI x0.1) - (1 : Int32))) (ty := .int) (C := RX11) (T := TX11) (N := 10) hx hb hts hinX11 tyX11 tyX11_ok nmX11 hown hQ.1 hP hD hS 0 rfl rfl 1 (by decide) (hts (.fieldLink RX11 47 "HeatPumpPlantModel" "kept" "I") (List.mem_of_getElem? (i := 1) rfl)) (fun _ h9 => h9) rfl (by decide +kernel) rfl rfl (Nat.le_of_ble_eq_true rfl) dX11_records_44 (fun H locs hP hD hS => ?_)
    rw [show ((nI x0.1) - (1 : Int32)) = nI (x0.1 - 1) from (pk_sub (a := x0.1) (b := 1) (by omega))] at hP hD
    have hP : va_P D vwCl (wF [gN b0 b2 b1 ((x0.1 - 1), x0.2.1, x0.2.2.1, x0.2.2.2.1, x0.2.2.2.2.1, x0.2.2.2.2.2.1, x0.2.2.2.2.2.2.1, x0.2.2.2.2.2.2.2), gR cL b2 z8]) H := hP
    have hD : va_D A (wF [gN b0 b2 b1 ((x0.1 - 1), x0.2.1, x0.2.2.1, x0.2.2.2.1, x0.2.2.2.2.1, x0.2.2.2.2.2.1, x0.2.2.2.2.2.2.1, x0.2.2.2.2.2.2.2), gR cL b2 z8]) := hD
    refine lv_aload_n hx hb dX11_records_47 rfl (lv_at hl 1 rfl) ?_
    refine lv_dup hx hb dX11_records_48 rfl ?_
    refine va_get (D := D) (ci := 11) (v := .int (nI (x0.1 - 1))) (C := RX11) (T := TX11) (N := 10) hx hb hts hinX11 hown hQ.1 hP 0 rfl rfl 1 (by decide) (hts (.fieldLink RX11 47 "HeatPumpPlantModel" "kept" "I") (List.mem_of_getElem? (i := 1) rfl)) (fun _ h9 => h9) rfl dX11_records_49 ?_
    refine lv_iconst (v := (1 : Int32)) hx hb dX11_records_52 (by decide) ?_
    refine lv_iadd hx hb dX11_records_53 ?_
    refine va_put (D := D) (ci := 11) (v := .int ((nI (x0.1 - 1)) + (1 : Int32))) (ty := .int) (C := RX11) (T := TX11) (N := 10) hx hb hts hinX11 tyX11 tyX11_ok nmX11 hown hQ.1 hP hD hS 0 rfl rfl 1 (by decide) (hts (.fieldLink RX11 47 "HeatPumpPlantModel" "kept" "I") (List.mem_of_getElem? (i := 1) rfl)) (fun _ h9 => h9) rfl (by decide +kernel) rfl rfl (Nat.le_of_ble_eq_true rfl) dX11_records_54 (fun H locs hP hD hS => ?_)
    rw [show ((nI (x0.1 - 1)) + (1 : Int32)) = nI ((x0.1 - 1) + 1) from ((congr (congrArg HAdd.hAdd (show (nI (x0.1 - 1)) = nI (x0.1 - 1) from rfl)) (show (1 : Int32) = nI 1 from (rfl : (1 : Int32) = nI 1))).trans (nI_add (x0.1 - 1) 1))] at hP hD
    have hP : va_P D vwCl (wF [gN b0 b2 b1 (((x0.1 - 1) + 1), x0.2.1, x0.2.2.1, x0.2.2.2.1, x0.2.2.2.2.1, x0.2.2.2.2.2.1, x0.2.2.2.2.2.2.1, x0.2.2.2.2.2.2.2), gR cL b2 z8]) H := hP
    have hD : va_D A (wF [gN b0 b2 b1 (((x0.1 - 1) + 1), x0.2.1, x0.2.2.1, x0.2.2.2.1, x0.2.2.2.2.1, x0.2.2.2.2.2.1, x0.2.2.2.2.2.2.1, x0.2.2.2.2.2.2.2), gR cL b2 z8]) := hD
    refine lv_aload_n hx hb dX11_records_57 rfl (lv_at hl 1 rfl) ?_
    refine lv_iconst (v := (0 : Int32)) hx hb dX11_records_58 (by decide) ?_
    refine lv_sipush (v := (174 : Int32)) hx hb dX11_records_59 (by decide) ?_
    refine lv_aload_n hx hb dX11_records_62 rfl (lv_at hl 1 rfl) ?_
    refine va_get (D := D) (ci := 11) (v := .int (nI ((x0.1 - 1) + 1))) (C := RX11) (T := TX11) (N := 10) hx hb hts hinX11 hown hQ.1 hP 0 rfl rfl 1 (by decide) (hts (.fieldLink RX11 47 "HeatPumpPlantModel" "kept" "I") (List.mem_of_getElem? (i := 1) rfl)) (fun _ h9 => h9) rfl dX11_records_63 ?_
    refine lv_imul hx hb dX11_records_66 ?_
    refine w_topn (174 * ((x0.1 - 1) + 1)) ((congr (congrArg HMul.hMul (show (174 : Int32) = nI 174 from (rfl : (174 : Int32) = nI 174))) (show (nI ((x0.1 - 1) + 1)) = nI ((x0.1 - 1) + 1) from rfl)).trans (pk_mul 174 ((x0.1 - 1) + 1))) ?_
    have hPc : va_P D vwCl (wF [gN b0 b2 b1 (((x0.1 - 1) + 1), x0.2.1, x0.2.2.1, x0.2.2.2.1, x0.2.2.2.2.1, x0.2.2.2.2.2.1, x0.2.2.2.2.2.2.1, x0.2.2.2.2.2.2.2), gR cL b2 z8]) H := w_psub hP [0, 1] rfl
    have hDc : va_D A (wF [gN b0 b2 b1 (((x0.1 - 1) + 1), x0.2.1, x0.2.2.1, x0.2.2.2.1, x0.2.2.2.2.1, x0.2.2.2.2.2.1, x0.2.2.2.2.2.2.1, x0.2.2.2.2.2.2.2), gR cL b2 z8]) := w_gsub hD [0, 1] rfl rfl
    refine c_Mv (F := F11_copies z8 0 (174 * ((x0.1 - 1) + 1))) (G1 := (fun w => [gN b0 b2 b1 (((x0.1 - 1) + 1), x0.2.1, x0.2.2.1, x0.2.2.2.1, x0.2.2.2.2.1, x0.2.2.2.2.2.1, x0.2.2.2.2.2.2.1, x0.2.2.2.2.2.2.2), gR cL b2 w])) (Gr := []) (Gs' := fun z10 => [gN b0 b2 b1 (((x0.1 - 1) + 1), x0.2.1, x0.2.2.1, x0.2.2.2.1, x0.2.2.2.2.1, x0.2.2.2.2.2.1, x0.2.2.2.2.2.2.1, x0.2.2.2.2.2.2.2), gR cL b2 z10]) (va_runV (As := [.int (nI 0), .int (nI (174 * ((x0.1 - 1) + 1)))]) (rest := []) ⟨hx, hb, hml, hown, hts⟩ (m11_copies l D cI cL cP b0 b1 b2 (((x0.1 - 1) + 1), x0.2.1, x0.2.2.1, x0.2.2.2.1, x0.2.2.2.2.1, x0.2.2.2.2.2.1, x0.2.2.2.2.2.2.1, x0.2.2.2.2.2.2.2) z8 0 (174 * ((x0.1 - 1) + 1)) (by omega) (by omega) (by omega) H.size) (cwV 2 hts gX11_records_X11_copies rfl rfl rfl (by decide +kernel) ⟨Nat.le_of_ble_eq_true rfl, Nat.le_of_ble_eq_true rfl⟩) (preM_V (q := (RX11, TX11, 10)) (q0 := 0) hQ hPc hDc rfl rfl) rfl rfl hl.1 rfl (lv_room (Nat.le_of_ble_eq_true rfl)) dX11_records_67 ⟨Nat.le_of_ble_eq_true rfl, Nat.le_of_ble_eq_true rfl⟩) hS hA hP hD [0, 1] [] [0, 1] rfl rfl rfl rfl rfl (fun _ => rfl) (fun z10 H locs hz10 hP hD hS => ?_)
    have hP : va_P D vwCl (wF [gN b0 b2 b1 (((x0.1 - 1) + 1), x0.2.1, x0.2.2.1, x0.2.2.2.1, x0.2.2.2.2.1, x0.2.2.2.2.2.1, x0.2.2.2.2.2.2.1, x0.2.2.2.2.2.2.2), gR cL b2 z10]) H := hP
    have hD : va_D A (wF [gN b0 b2 b1 (((x0.1 - 1) + 1), x0.2.1, x0.2.2.1, x0.2.2.2.1, x0.2.2.2.2.1, x0.2.2.2.2.2.1, x0.2.2.2.2.2.2.1, x0.2.2.2.2.2.2.2), gR cL b2 z10]) := hD
    refine lv_aload_n hx hb dX11_records_70 rfl (lv_at hl 1 rfl) ?_
    refine va_get (D := D) (ci := 11) (v := .int (nI ((x0.1 - 1) + 1))) (C := RX11) (T := TX11) (N := 10) hx hb hts hinX11 hown hQ.1 hP 0 rfl rfl 1 (by decide) (hts (.fieldLink RX11 47 "HeatPumpPlantModel" "kept" "I") (List.mem_of_getElem? (i := 1) rfl)) (fun _ h9 => h9) rfl dX11_records_71 ?_
    exact W.iret (v := (nI ((x0.1 - 1) + 1))) hx hb hr (fun t ht hW => ⟨⟨(nI ((x0.1 - 1) + 1)), ((((x0.1 - 1) + 1), x0.2.1, x0.2.2.1, x0.2.2.2.1, x0.2.2.2.2.1, x0.2.2.2.2.2.1, x0.2.2.2.2.2.2.1, x0.2.2.2.2.2.2.2), z10), rfl, ((Eq.trans (if_pos c1) (Eq.trans (congrArg (K11_records_2 x0 x1) hz4.symm) (Eq.trans (congrArg (K11_records_3 x0 x1 z4) hz6.symm) (Eq.trans (congrArg (K11_records_4 x0 x1 z4 z6) hz8.symm) (Eq.trans (congrArg (K11_records_5 x0 x1 z4 z6 z8) hz10.symm) (rfl)))))).symm), by rw [ht]; exact hP, hD⟩, hS.F ht⟩) hS.2.2 dX11_records_74
def F11_set1 (x1 : (Nat → Int64)) (p1 : Nat) : Int64 := (x1 (0 + p1))
set_option maxHeartbeats 4000000 in
set_option maxRecDepth 100000 in
theorem m11_set1 (l : Launch) (D : va_G) (cI cL cP : ClassId) (b0 : Nat) (b1 : Nat) (b2 : Nat) (x0 : MoN) (x1 : (Nat → Int64)) (p1 : Nat) (hp : p1 < 17) (H0 : Heap) : Met l yX11_set1 wsX11_set1 ({ frames := 0, cells := 0, slots := 0, locals := 0 }) (va_Pc [.ref b0, .int (nI p1)] (pR D cI cL cP H0 (wF [gN b0 b2 b1 x0, gR cL b2 x1]))) (va_Ql (fun (r : Int64) (_ : Unit) => r = F11_set1 x1 p1) (qE H0) nF) 0 0 nF := by
  refine Met.ofW (cc := cX11_set1) (maxL := 2) (ret := (some .long)) (by decide) rfl ?_
  intro p e s m args below meth c s₁ B hml hv
  obtain ⟨rfl, rfl, hP, hQ⟩ := hv
  have hx := B.exec
  have hb := B.bytes
  have hr := B.returns
  have hts := atoms_spec (ws := wsX11_set1) B.pre
  have hown : s.vm.findClass RX11 = some m.cls := findClass_of_methodNamed B.named
  have hlocks := B.notSynchronized
  have hS : va_S nF s.heap s.heap [] := va_S.rf
  have hl := lv_entry ([.ref b0, .int (nI p1)]) (n := 2) (Nat.le_of_ble_eq_true rfl)
  rw [lg_entry_eq]
  generalize (lg_sl ([.ref b0, .int (nI p1)]) ++ List.replicate (2 - (lg_sl ([.ref b0, .int (nI p1)])).length) Slot.unset).toArray = ls at hl ⊢
  have hl : lv_has ls 2 [(0, .ref b0), (1, .int (nI p1))] := hl
  have hinX11 : ∀ w ∈ wsX110, w ∈ wsX11_set1 := fun _ h => List.mem_cons_of_mem _ (List.mem_append_right _ h)
  refine lv_aload_n hx hb dX11_set1_0 rfl (lv_at hl 0 rfl) ?_
  refine va_get (D := D) (ci := 11) (v := .ref b2) (C := RX11) (T := TX11) (N := 10) hx hb hts hinX11 hown hQ.1 hP 0 rfl rfl 0 (by decide) (hts (.fieldLink RX11 7 "HeatPumpPlantModel" "row" "[J") (List.mem_of_getElem? (i := 1) rfl)) (fun _ h9 => h9) rfl dX11_set1_1 ?_
  refine lv_iconst (v := (0 : Int32)) hx hb dX11_set1_4 (by decide) ?_
  refine lv_iload_n hx hb dX11_set1_5 rfl (lv_at hl 1 rfl) ?_
  refine lv_iadd hx hb dX11_set1_6 ?_
  refine w_lald (f := x1) (j := (0 + p1)) hx hb hQ.1 hP 1 1 rfl rfl ((congr (congrArg HAdd.hAdd (show (0 : Int32) = nI 0 from (rfl : (0 : Int32) = nI 0))) (show (nI p1) = nI p1 from rfl)).trans (nI_add 0 p1)) (by omega) (by decide) dX11_set1_7 ?_
  exact W.lret (v := (x1 (0 + p1))) hx hb hr (fun t ht hW => ⟨⟨(x1 (0 + p1)), (), rfl, ((rfl).symm), ht⟩, hS.F ht⟩) hS.2.2 dX11_set1_8
def F11_isHour (p1 : Int32) : Bool := (F11_in p1.toInt64 (0 : Int64) (23 : Int64))
set_option maxHeartbeats 4000000 in
set_option maxRecDepth 100000 in
theorem m11_isHour (l : Launch) (D : va_G) (cI cL cP : ClassId) (p1 : Int32) (H0 : Heap) : Met l yX11_isHour wsX11_isHour ({ frames := 1, cells := 0, slots := 0, locals := 25 }) (va_Pc [.int p1] (pR D cI cL cP H0 (wF []))) (va_Qi (fun (r : Int32) (_ : Unit) => r = bI (F11_isHour p1)) (qE H0) nF) 0 0 nF := by
  refine Met.ofW (cc := cX11_isHour) (maxL := 1) (ret := (some .boolean)) (by decide) rfl ?_
  intro p e s m args below meth c s₁ B hml hv
  obtain ⟨rfl, rfl, hP, hQ⟩ := hv
  have hx := B.exec
  have hb := B.bytes
  have hr := B.returns
  have hts := atoms_spec (ws := wsX11_isHour) B.pre
  have hown : s.vm.findClass RX11 = some m.cls := findClass_of_methodNamed B.named
  have hlocks := B.notSynchronized
  have hS : va_S nF s.heap s.heap [] := va_S.rf
  have hl := lv_entry ([.int p1]) (n := 1) (Nat.le_of_ble_eq_true rfl)
  rw [lg_entry_eq]
  generalize (lg_sl ([.int p1]) ++ List.replicate (1 - (lg_sl ([.int p1])).length) Slot.unset).toArray = ls at hl ⊢
  have hl : lv_has ls 1 [(0, .int p1)] := hl
  refine lv_iload_n hx hb dX11_isHour_0 rfl (lv_at hl 0 rfl) ?_
  refine lv_i2l hx hb dX11_isHour_1 rfl ?_
  refine lv_lconst (v := (0 : Int64)) hx hb dX11_isHour_2 rfl ?_
  refine lv_ldc2 (own := RX11) (index := 54) (v := (23 : Int64)) hx hb hown (hts (.constantLong RX11 54 (23)) (List.mem_of_getElem? (i := 1) rfl)) dX11_isHour_3 ?_
  have hPc : va_P D vwCl (wF []) s.heap := hP.sub [] rfl
  refine c_Ri (va_runS (As := [.long p1.toInt64, .long (0 : Int64), .long (23 : Int64)]) (rest := []) ⟨hx, hb, hml, hown, hts⟩ (m11_in l D cI cL cP p1.toInt64 (0 : Int64) (23 : Int64) s.heap) (va_cwS 3 hts gX11_isHour_X11_in rfl rfl rfl (by decide +kernel) ⟨Nat.le_of_ble_eq_true rfl, Nat.le_of_ble_eq_true rfl⟩) (preR_S hQ hPc) rfl rfl hl.1 rfl (lv_room (Nat.le_of_ble_eq_true rfl)) dX11_isHour_6 ⟨Nat.le_of_ble_eq_true rfl, Nat.le_of_ble_eq_true rfl⟩) hS (fun locs hS => ?_)
  exact W.zret (v := (bI (F11_in p1.toInt64 (0 : Int64) (23 : Int64)))) (ty := .boolean) hx hb hr (bI_n _) (fun t ht hW => ⟨⟨(bI (F11_in p1.toInt64 (0 : Int64) (23 : Int64))), (), rfl, ((congrArg bI (show F11_isHour p1 = (F11_in p1.toInt64 (0 : Int64) (23 : Int64)) from rfl)).symm), ht⟩, hS.F ht⟩) hS.2.2 dX11_isHour_9
theorem w_hrN {p : Int32} (h : F11_isHour p = true) : p = nI p.toNatClampNeg := w_inN (show F11_in p.toInt64 0 23 = true from h) (by decide)
theorem w_hrL {p : Int32} (h : F11_isHour p = true) : p.toNatClampNeg < 24 := w_inL (show F11_in p.toInt64 0 23 = true from h) (by decide) (by decide)
/-! places of points -/
theorem w_il {i : Nat} (hi : i < 2 ^ 31) : (nI i).toInt64.toInt = (i : Int) := by rw [Int32.toInt_toInt64, nI_toInt hi]
theorem w_ptlt {a : Int64} {i : Nat} (h : ¬ a ≤ (nI i).toInt64) (ha : a.toInt ≤ 6) (hi : i < 2 ^ 31) : i < 6 := by
  have h1 := Int64.not_le.mp h
  rw [Int64.lt_iff_toInt_lt, w_il hi] at h1
  omega
theorem w_pt0 {a : Int64} {i : Nat} (h : a ≤ (nI i).toInt64) (ha : 1 ≤ a.toInt) (hi : i < 2 ^ 31) : 0 < i := by
  rw [Int64.le_iff_toInt_le, w_il hi] at h
  omega
def pOk (b : Int32) : Prop := b < 0 ∨ ∃ j, j < 6 ∧ b = nI j
def pTm (f : Nat → Int64) (b : Int32) : Int64 := f ((69 : Int32) + ((2 : Int32) * b)).toNatClampNeg
theorem w_pk {i : Nat} (hi : i < 6) : pOk (nI i) := Or.inr ⟨i, hi, rfl⟩
theorem w_p2 {j : Nat} : ((69 : Int32) + ((2 : Int32) * nI j)) = nI (69 + 2 * j) := by
  rw [show (2 : Int32) = nI 2 from rfl, show (69 : Int32) = nI 69 from rfl, pk_mul, nI_add]
theorem w_p3 {j : Nat} : (((69 : Int32) + ((2 : Int32) * nI j)) + (1 : Int32)) = nI (69 + 2 * j + 1) := by
  rw [w_p2, nI_1]
theorem w_ptm (f : Nat → Int64) {i : Nat} (hi : i < 6) : pTm f (nI i) = f (69 + (2 * i)) := by
  unfold pTm
  rw [w_p2, nI_clamp (by omega)]
theorem w_pin {b : Int32} (h : pOk b) (h0 : ¬ b < 0) : vp_in ((69 : Int32) + ((2 : Int32) * b)) 1044 := by
  obtain ⟨j, hj, rfl⟩ := h.resolve_left h0
  rw [w_p2]
  exact vp_in_nI (by omega) (by decide)
theorem w_pin1 {b : Int32} (h : pOk b) (h0 : ¬ b < 0) : vp_in (((69 : Int32) + ((2 : Int32) * b)) + (1 : Int32)) 1044 := by
  obtain ⟨j, hj, rfl⟩ := h.resolve_left h0
  rw [w_p3]
  exact vp_in_nI (by omega) (by decide)
theorem w_nn0 {b : Int32} (h : 0 ≤ b) : ¬ b < 0 := Int32.not_lt.mpr h
theorem w_lt0 {b : Int32} (h : b < 0) : ¬ 0 ≤ b := Int32.not_le.mpr h
theorem w_sub0 {a b q : Int64} (h1 : b ≤ q) (h2 : q < a) : ¬ a - b = 0 := by
  intro h
  have e : a = b := by
    have h3 : a - b + b = 0 + b := by rw [h]
    rw [Int64.sub_add_cancel, Int64.zero_add] at h3
    exact h3
  rw [Int64.le_iff_toInt_le] at h1
  rw [Int64.lt_iff_toInt_lt, e] at h2
  omega
def K11_set_1 (x0 : MoN) (x1 : (Nat → Int64)) (p1 : Int32) (p2 : Int32) (z3 : Int32 × MoN × (Nat → Int64)) : Int32 × MoN × (Nat → Int64) := ((nI z3.2.1.1), (z3.2.1, (vp_updL z3.2.2 (0 + (p1.toNatClampNeg)) p2.toInt64)))
def F11_set (x0 : MoN) (x1 : (Nat → Int64)) (p1 : Int32) (p2 : Int32) : Int32 × MoN × (Nat → Int64) := (if (F11_in p1.toInt64 (0 : Int64) (16 : Int64)) = true then (if (F11_in p2.toInt64 ((F11_least (p1.toNatClampNeg)).toInt64) ((F11_most (p1.toNatClampNeg)).toInt64)) = true then (K11_set_1 x0 x1 p1 p2 (F11_records x0 x1)) else ((-1 : Int32), (x0, x1))) else ((-1 : Int32), (x0, x1)))
set_option maxHeartbeats 4000000 in
set_option maxRecDepth 100000 in
theorem m11_set (l : Launch) (D : va_G) (cI cL cP : ClassId) (b0 : Nat) (b1 : Nat) (b2 : Nat) (x0 : MoN) (x1 : (Nat → Int64)) (p1 : Int32) (p2 : Int32) (hk : x0.1 ≤ 4) (sz : Nat) : Met l yX11_set wsX11_set ({ frames := 2, cells := 0, slots := 0, locals := 44 }) (va_Pc [.ref b0, .int p1, .int p2] (pM D cI cL cP sz (wF [gN b0 b2 b1 x0, gR cL b2 x1]))) (va_Qi (fun (r : Int32) (w : MoN × (Nat → Int64)) => (r, w) = F11_set x0 x1 p1 p2) (qW D (va_A (wF [gN b0 b2 b1 x0, gR cL b2 x1]) sz) (fun w : MoN × (Nat → Int64) => (wF [gN b0 b2 b1 w.1, gR cL b2 w.2]))) (va_A (wF [gN b0 b2 b1 x0, gR cL b2 x1]) sz)) 0 0 (va_A (wF [gN b0 b2 b1 x0, gR cL b2 x1]) sz) := by
  refine Met.ofW (cc := cX11_set) (maxL := 3) (ret := (some .int)) (by decide) rfl ?_
  intro p e s m args below meth c s₁ B hml hv
  obtain ⟨rfl, hsz, hP, hQ, hD0⟩ := hv
  have hx := B.exec
  have hb := B.bytes
  have hr := B.returns
  have hts := atoms_spec (ws := wsX11_set) B.pre
  have hown : s.vm.findClass RX11 = some m.cls := findClass_of_methodNamed B.named
  have hlocks := B.notSynchronized
  subst hsz
  have hD := hD0.self (sz := s.heap.size)
  generalize hAe : va_A (wF [gN b0 b2 b1 x0, gR cL b2 x1]) s.heap.size = A at hD ⊢
  have hA : ∀ q : Nat, s.heap.size ≤ q → A q := fun q h => by rw [← hAe]; exact Or.inr h
  have hS : va_S A s.heap s.heap [] := va_S.rf
  have hP : va_P D vwCl (wF [gN b0 b2 b1 x0, gR cL b2 x1]) s.heap := hP
  have hl := lv_entry ([.ref b0, .int p1, .int p2]) (n := 3) (Nat.le_of_ble_eq_true rfl)
  rw [lg_entry_eq]
  generalize (lg_sl ([.ref b0, .int p1, .int p2]) ++ List.replicate (3 - (lg_sl ([.ref b0, .int p1, .int p2])).length) Slot.unset).toArray = ls at hl ⊢
  have hl : lv_has ls 3 [(0, .ref b0), (1, .int p1), (2, .int p2)] := hl
  have hinX11 : ∀ w ∈ wsX110, w ∈ wsX11_set := fun _ h => List.mem_cons_of_mem _ (List.mem_append_right _ h)
  refine lv_iload_n hx hb dX11_set_0 rfl (lv_at hl 1 rfl) ?_
  refine lv_i2l hx hb dX11_set_1 rfl ?_
  refine lv_lconst (v := (0 : Int64)) hx hb dX11_set_2 rfl ?_
  refine lv_ldc2 (own := RX11) (index := 60) (v := (16 : Int64)) hx hb hown (hts (.constantLong RX11 60 (16)) (List.mem_of_getElem? (i := 1) rfl)) dX11_set_3 ?_
  have hPc : va_P D vwCl (wF []) s.heap := hP.sub [] rfl
  refine c_Ri (va_runS (As := [.long p1.toInt64, .long (0 : Int64), .long (16 : Int64)]) (rest := []) ⟨hx, hb, hml, hown, hts⟩ (m11_in l D cI cL cP p1.toInt64 (0 : Int64) (16 : Int64) s.heap) (va_cwS 3 hts gX11_set_X11_in rfl rfl rfl (by decide +kernel) ⟨Nat.le_of_ble_eq_true rfl, Nat.le_of_ble_eq_true rfl⟩) (preR_S hQ hPc) rfl rfl hl.1 rfl (lv_room (Nat.le_of_ble_eq_true rfl)) dX11_set_6 ⟨Nat.le_of_ble_eq_true rfl, Nat.le_of_ble_eq_true rfl⟩) hS (fun locs hS => ?_)
  refine lv_if_eq (tgt := 30) hx hb dX11_set_9 (by decide) (fun c1 => ?_) (fun c1 => ?_)
  · have c1 : ¬ ((F11_in p1.toInt64 (0 : Int64) (16 : Int64)) = true) := bI_0.mp c1
    refine lv_iconst (v := (-1 : Int32)) hx hb dX11_set_30 (by decide) ?_
    exact W.iret (v := (-1 : Int32)) hx hb hr (fun t ht hW => ⟨⟨(-1 : Int32), (x0, x1), rfl, ((Eq.trans (if_neg c1) (rfl)).symm), by rw [ht]; exact hP, hD⟩, hS.F ht⟩) hS.2.2 dX11_set_31
  · have c1 : (F11_in p1.toInt64 (0 : Int64) (16 : Int64)) = true := bI_1.mp c1
    refine lv_iload_n hx hb dX11_set_12 rfl (lv_at hl 2 rfl) ?_
    refine lv_i2l hx hb dX11_set_13 rfl ?_
    refine lv_iload_n hx hb dX11_set_14 rfl (lv_at hl 1 rfl) ?_
    refine w_topn (p1.toNatClampNeg) (w_inN c1 (by decide)) ?_
    have hPc : va_P D vwCl (wF []) s.heap := hP.sub [] rfl
    refine c_Ri (va_runS (As := [.int (nI (p1.toNatClampNeg))]) (rest := [.long p2.toInt64]) ⟨hx, hb, hml, hown, hts⟩ (m11_least l D cI cL cP (p1.toNatClampNeg) (w_inL c1 (by decide) (by decide)) s.heap) (va_cwS 1 hts gX11_set_X11_least rfl rfl rfl (by decide +kernel) ⟨Nat.le_of_ble_eq_true rfl, Nat.le_of_ble_eq_true rfl⟩) (preR_S hQ hPc) rfl rfl hl.1 rfl (lv_room (Nat.le_of_ble_eq_true rfl)) dX11_set_15 ⟨Nat.le_of_ble_eq_true rfl, Nat.le_of_ble_eq_true rfl⟩) hS (fun locs hS => ?_)
    refine lv_i2l hx hb dX11_set_18 rfl ?_
    refine lv_iload_n hx hb dX11_set_19 rfl (lv_at hl 1 rfl) ?_
    refine w_topn (p1.toNatClampNeg) (w_inN c1 (by decide)) ?_
    have hPc : va_P D vwCl (wF []) s.heap := hP.sub [] rfl
    refine c_Ri (va_runS (As := [.int (nI (p1.toNatClampNeg))]) (rest := [.long ((F11_least (p1.toNatClampNeg)).toInt64), .long p2.toInt64]) ⟨hx, hb, hml, hown, hts⟩ (m11_most l D cI cL cP (p1.toNatClampNeg) (w_inL c1 (by decide) (by decide)) s.heap) (va_cwS 1 hts gX11_set_X11_most rfl rfl rfl (by decide +kernel) ⟨Nat.le_of_ble_eq_true rfl, Nat.le_of_ble_eq_true rfl⟩) (preR_S hQ hPc) rfl rfl hl.1 rfl (lv_room (Nat.le_of_ble_eq_true rfl)) dX11_set_20 ⟨Nat.le_of_ble_eq_true rfl, Nat.le_of_ble_eq_true rfl⟩) hS (fun locs hS => ?_)
    refine lv_i2l hx hb dX11_set_23 rfl ?_
    have hPc : va_P D vwCl (wF []) s.heap := hP.sub [] rfl
    refine c_Ri (va_runS (As := [.long p2.toInt64, .long ((F11_least (p1.toNatClampNeg)).toInt64), .long ((F11_most (p1.toNatClampNeg)).toInt64)]) (rest := []) ⟨hx, hb, hml, hown, hts⟩ (m11_in l D cI cL cP p2.toInt64 ((F11_least (p1.toNatClampNeg)).toInt64) ((F11_most (p1.toNatClampNeg)).toInt64) s.heap) (va_cwS 3 hts gX11_set_X11_in rfl rfl rfl (by decide +kernel) ⟨Nat.le_of_ble_eq_true rfl, Nat.le_of_ble_eq_true rfl⟩) (preR_S hQ hPc) rfl rfl hl.1 rfl (lv_room (Nat.le_of_ble_eq_true rfl)) dX11_set_24 ⟨Nat.le_of_ble_eq_true rfl, Nat.le_of_ble_eq_true rfl⟩) hS (fun locs hS => ?_)
    refine lv_if_ne (tgt := 32) hx hb dX11_set_27 (by decide) (fun c2 => ?_) (fun c2 => ?_)
    · have c2 : (F11_in p2.toInt64 ((F11_least (p1.toNatClampNeg)).toInt64) ((F11_most (p1.toNatClampNeg)).toInt64)) = true := bI_1.mp c2
      refine lv_aload_n hx hb dX11_set_32 rfl (lv_at hl 0 rfl) ?_
      have hPc : va_P D vwCl (wF [gN b0 b2 b1 x0, gR cL b2 x1]) s.heap := w_psub hP [0, 1] rfl
      have hDc : va_D A (wF [gN b0 b2 b1 x0, gR cL b2 x1]) := w_gsub hD [0, 1] rfl rfl
      refine c_Mi (F := F11_records x0 x1) (G1 := (fun w => [gN b0 b2 b1 w.1, gR cL b2 w.2])) (Gr := []) (Gs' := fun z3 => [gN b0 b2 b1 z3.2.1, gR cL b2 z3.2.2]) (va_runV (As := []) (rest := []) ⟨hx, hb, hml, hown, hts⟩ (m11_records l D cI cL cP b0 b1 b2 x0 x1 (by omega) s.heap.size) (cwV 0 hts gX11_set_X11_records rfl rfl rfl (by decide +kernel) ⟨Nat.le_of_ble_eq_true rfl, Nat.le_of_ble_eq_true rfl⟩) (preM_V (q := (RX11, TX11, 10)) (q0 := 0) hQ hPc hDc rfl rfl) rfl rfl hl.1 rfl (lv_room (Nat.le_of_ble_eq_true rfl)) dX11_set_33 ⟨Nat.le_of_ble_eq_true rfl, Nat.le_of_ble_eq_true rfl⟩) hS hA hP hD [0, 1] [] [0, 1] rfl rfl rfl rfl rfl (fun _ => rfl) (fun z3 H locs hz3 hP hD hS => ?_)
      have hP : va_P D vwCl (wF [gN b0 b2 b1 z3.2.1, gR cL b2 z3.2.2]) H := hP
      have hD : va_D A (wF [gN b0 b2 b1 z3.2.1, gR cL b2 z3.2.2]) := hD
      refine lv_pop hx hb dX11_set_36 rfl ?_
      refine lv_aload_n hx hb dX11_set_37 rfl (lv_at hl 0 rfl) ?_
      refine va_get (D := D) (ci := 11) (v := .ref b2) (C := RX11) (T := TX11) (N := 10) hx hb hts hinX11 hown hQ.1 hP 0 rfl rfl 0 (by decide) (hts (.fieldLink RX11 7 "HeatPumpPlantModel" "row" "[J") (List.mem_of_getElem? (i := 2) rfl)) (fun _ h9 => h9) rfl dX11_set_38 ?_
      refine lv_iconst (v := (0 : Int32)) hx hb dX11_set_41 (by decide) ?_
      refine lv_iload_n hx hb dX11_set_42 rfl (lv_at hl 1 rfl) ?_
      refine w_topn (p1.toNatClampNeg) (w_inN c1 (by decide)) ?_
      refine lv_iadd hx hb dX11_set_43 ?_
      refine lv_iload_n hx hb dX11_set_44 rfl (lv_at hl 2 rfl) ?_
      refine lv_i2l hx hb dX11_set_45 rfl ?_
      refine w_last (f := z3.2.2) (j := (0 + (p1.toNatClampNeg))) hx hb hQ.1 hP hD hS 1 1 rfl rfl ((congr (congrArg HAdd.hAdd (show (0 : Int32) = nI 0 from (rfl : (0 : Int32) = nI 0))) (show (nI (p1.toNatClampNeg)) = nI (p1.toNatClampNeg) from rfl)).trans (nI_add 0 (p1.toNatClampNeg))) (by have h9 := w_inL (n := 17) c1 (by decide) (by decide); omega) (by decide) dX11_set_46 (fun H locs hP hD hS => ?_)
      have hP : va_P D vwCl (wF [gN b0 b2 b1 z3.2.1, gR cL b2 (vp_updL z3.2.2 (0 + (p1.toNatClampNeg)) p2.toInt64)]) H := hP
      have hD : va_D A (wF [gN b0 b2 b1 z3.2.1, gR cL b2 (vp_updL z3.2.2 (0 + (p1.toNatClampNeg)) p2.toInt64)]) := hD
      refine lv_aload_n hx hb dX11_set_47 rfl (lv_at hl 0 rfl) ?_
      refine va_get (D := D) (ci := 11) (v := .int (nI z3.2.1.1)) (C := RX11) (T := TX11) (N := 10) hx hb hts hinX11 hown hQ.1 hP 0 rfl rfl 1 (by decide) (hts (.fieldLink RX11 47 "HeatPumpPlantModel" "kept" "I") (List.mem_of_getElem? (i := 3) rfl)) (fun _ h9 => h9) rfl dX11_set_48 ?_
      exact W.iret (v := (nI z3.2.1.1)) hx hb hr (fun t ht hW => ⟨⟨(nI z3.2.1.1), (z3.2.1, (vp_updL z3.2.2 (0 + (p1.toNatClampNeg)) p2.toInt64)), rfl, ((Eq.trans (if_pos c1) (Eq.trans (if_pos c2) (Eq.trans (congrArg (K11_set_1 x0 x1 p1 p2) hz3.symm) (rfl)))).symm), by rw [ht]; exact hP, hD⟩, hS.F ht⟩) hS.2.2 dX11_set_51
    · have c2 : ¬ ((F11_in p2.toInt64 ((F11_least (p1.toNatClampNeg)).toInt64) ((F11_most (p1.toNatClampNeg)).toInt64)) = true) := bI_0.mp c2
      refine lv_iconst (v := (-1 : Int32)) hx hb dX11_set_30 (by decide) ?_
      exact W.iret (v := (-1 : Int32)) hx hb hr (fun t ht hW => ⟨⟨(-1 : Int32), (x0, x1), rfl, ((Eq.trans (if_pos c1) (Eq.trans (if_neg c2) (rfl))).symm), by rw [ht]; exact hP, hD⟩, hS.F ht⟩) hS.2.2 dX11_set_31
def F11_setting (x1 : (Nat → Int64)) (p1 : Int32) : Int32 := (if (F11_in p1.toInt64 (0 : Int64) (16 : Int64)) = true then ((F11_set1 x1 (p1.toNatClampNeg)).toInt32) else (-9999 : Int32))
set_option maxHeartbeats 4000000 in
set_option maxRecDepth 100000 in
theorem m11_setting (l : Launch) (D : va_G) (cI cL cP : ClassId) (b0 : Nat) (b1 : Nat) (b2 : Nat) (x0 : MoN) (x1 : (Nat → Int64)) (p1 : Int32) (H0 : Heap) : Met l yX11_setting wsX11_setting ({ frames := 1, cells := 0, slots := 0, locals := 25 }) (va_Pc [.ref b0, .int p1] (pR D cI cL cP H0 (wF [gN b0 b2 b1 x0, gR cL b2 x1]))) (va_Qi (fun (r : Int32) (_ : Unit) => r = F11_setting x1 p1) (qE H0) nF) 0 0 nF := by
  refine Met.ofW (cc := cX11_setting) (maxL := 2) (ret := (some .int)) (by decide) rfl ?_
  intro p e s m args below meth c s₁ B hml hv
  obtain ⟨rfl, rfl, hP, hQ⟩ := hv
  have hx := B.exec
  have hb := B.bytes
  have hr := B.returns
  have hts := atoms_spec (ws := wsX11_setting) B.pre
  have hown : s.vm.findClass RX11 = some m.cls := findClass_of_methodNamed B.named
  have hlocks := B.notSynchronized
  have hS : va_S nF s.heap s.heap [] := va_S.rf
  have hl := lv_entry ([.ref b0, .int p1]) (n := 2) (Nat.le_of_ble_eq_true rfl)
  rw [lg_entry_eq]
  generalize (lg_sl ([.ref b0, .int p1]) ++ List.replicate (2 - (lg_sl ([.ref b0, .int p1])).length) Slot.unset).toArray = ls at hl ⊢
  have hl : lv_has ls 2 [(0, .ref b0), (1, .int p1)] := hl
  have hinX11 : ∀ w ∈ wsX110, w ∈ wsX11_setting := fun _ h => List.mem_cons_of_mem _ (List.mem_append_right _ h)
  refine lv_iload_n hx hb dX11_setting_0 rfl (lv_at hl 1 rfl) ?_
  refine lv_i2l hx hb dX11_setting_1 rfl ?_
  refine lv_lconst (v := (0 : Int64)) hx hb dX11_setting_2 rfl ?_
  refine lv_ldc2 (own := RX11) (index := 60) (v := (16 : Int64)) hx hb hown (hts (.constantLong RX11 60 (16)) (List.mem_of_getElem? (i := 1) rfl)) dX11_setting_3 ?_
  have hPc : va_P D vwCl (wF []) s.heap := hP.sub [] rfl
  refine c_Ri (va_runS (As := [.long p1.toInt64, .long (0 : Int64), .long (16 : Int64)]) (rest := []) ⟨hx, hb, hml, hown, hts⟩ (m11_in l D cI cL cP p1.toInt64 (0 : Int64) (16 : Int64) s.heap) (va_cwS 3 hts gX11_setting_X11_in rfl rfl rfl (by decide +kernel) ⟨Nat.le_of_ble_eq_true rfl, Nat.le_of_ble_eq_true rfl⟩) (preR_S hQ hPc) rfl rfl hl.1 rfl (lv_room (Nat.le_of_ble_eq_true rfl)) dX11_setting_6 ⟨Nat.le_of_ble_eq_true rfl, Nat.le_of_ble_eq_true rfl⟩) hS (fun locs hS => ?_)
  refine lv_if_eq (tgt := 21) hx hb dX11_setting_9 (by decide) (fun c1 => ?_) (fun c1 => ?_)
  · have c1 : ¬ ((F11_in p1.toInt64 (0 : Int64) (16 : Int64)) = true) := bI_0.mp c1
    refine lv_sipush (v := (-9999 : Int32)) hx hb dX11_setting_21 (by decide) ?_
    exact W.iret (v := (-9999 : Int32)) hx hb hr (fun t ht hW => ⟨⟨(-9999 : Int32), (), rfl, ((Eq.trans (if_neg c1) (rfl)).symm), ht⟩, hS.F ht⟩) hS.2.2 dX11_setting_24
  · have c1 : (F11_in p1.toInt64 (0 : Int64) (16 : Int64)) = true := bI_1.mp c1
    refine lv_aload_n hx hb dX11_setting_12 rfl (lv_at hl 0 rfl) ?_
    refine lv_iload_n hx hb dX11_setting_13 rfl (lv_at hl 1 rfl) ?_
    refine w_topn (p1.toNatClampNeg) (w_inN c1 (by decide)) ?_
    have hPc : va_P D vwCl (wF [gN b0 b2 b1 x0, gR cL b2 x1]) s.heap := hP.sub [0, 1] rfl
    refine c_Rl (va_runV (As := [.int (nI (p1.toNatClampNeg))]) (rest := []) ⟨hx, hb, hml, hown, hts⟩ (m11_set1 l D cI cL cP b0 b1 b2 x0 x1 (p1.toNatClampNeg) (w_inL c1 (by decide) (by decide)) s.heap) (cwV 1 hts gX11_setting_X11_set1 rfl rfl rfl (by decide +kernel) ⟨Nat.le_of_ble_eq_true rfl, Nat.le_of_ble_eq_true rfl⟩) (preR_V (q := (RX11, TX11, 10)) (q0 := 0) hQ hPc rfl rfl) rfl rfl hl.1 rfl (lv_room (Nat.le_of_ble_eq_true rfl)) dX11_setting_14 ⟨Nat.le_of_ble_eq_true rfl, Nat.le_of_ble_eq_true rfl⟩) hS (fun locs hS => ?_)
    refine lv_l2i hx hb dX11_setting_17 rfl ?_
    refine lv_goto (tgt := 24) hx hb dX11_setting_18 (by decide) ?_
    exact W.iret (v := (F11_set1 x1 (p1.toNatClampNeg)).toInt32) hx hb hr (fun t ht hW => ⟨⟨(F11_set1 x1 (p1.toNatClampNeg)).toInt32, (), rfl, ((Eq.trans (if_pos c1) (rfl)).symm), ht⟩, hS.F ht⟩) hS.2.2 dX11_setting_24
def K11_setOutdoor_1 (x0 : MoN) (x1 : (Nat → Int64)) (p1 : Int32) (p2 : Int32) (z3 : Int32 × MoN × (Nat → Int64)) : Int32 × MoN × (Nat → Int64) := ((nI z3.2.1.1), (z3.2.1, (vp_updL z3.2.2 (17 + (p1.toNatClampNeg)) p2.toInt64)))
def F11_setOutdoor (x0 : MoN) (x1 : (Nat → Int64)) (p1 : Int32) (p2 : Int32) : Int32 × MoN × (Nat → Int64) := (if (F11_isHour p1) = true then (if (F11_in p2.toInt64 (-300 : Int64) (400 : Int64)) = true then (K11_setOutdoor_1 x0 x1 p1 p2 (F11_records x0 x1)) else ((-1 : Int32), (x0, x1))) else ((-1 : Int32), (x0, x1)))
set_option maxHeartbeats 4000000 in
set_option maxRecDepth 100000 in
theorem m11_setOutdoor (l : Launch) (D : va_G) (cI cL cP : ClassId) (b0 : Nat) (b1 : Nat) (b2 : Nat) (x0 : MoN) (x1 : (Nat → Int64)) (p1 : Int32) (p2 : Int32) (hk : x0.1 ≤ 4) (sz : Nat) : Met l yX11_setOutdoor wsX11_setOutdoor ({ frames := 2, cells := 0, slots := 0, locals := 45 }) (va_Pc [.ref b0, .int p1, .int p2] (pM D cI cL cP sz (wF [gN b0 b2 b1 x0, gR cL b2 x1]))) (va_Qi (fun (r : Int32) (w : MoN × (Nat → Int64)) => (r, w) = F11_setOutdoor x0 x1 p1 p2) (qW D (va_A (wF [gN b0 b2 b1 x0, gR cL b2 x1]) sz) (fun w : MoN × (Nat → Int64) => (wF [gN b0 b2 b1 w.1, gR cL b2 w.2]))) (va_A (wF [gN b0 b2 b1 x0, gR cL b2 x1]) sz)) 0 0 (va_A (wF [gN b0 b2 b1 x0, gR cL b2 x1]) sz) := by
  refine Met.ofW (cc := cX11_setOutdoor) (maxL := 3) (ret := (some .int)) (by decide) rfl ?_
  intro p e s m args below meth c s₁ B hml hv
  obtain ⟨rfl, hsz, hP, hQ, hD0⟩ := hv
  have hx := B.exec
  have hb := B.bytes
  have hr := B.returns
  have hts := atoms_spec (ws := wsX11_setOutdoor) B.pre
  have hown : s.vm.findClass RX11 = some m.cls := findClass_of_methodNamed B.named
  have hlocks := B.notSynchronized
  subst hsz
  have hD := hD0.self (sz := s.heap.size)
  generalize hAe : va_A (wF [gN b0 b2 b1 x0, gR cL b2 x1]) s.heap.size = A at hD ⊢
  have hA : ∀ q : Nat, s.heap.size ≤ q → A q := fun q h => by rw [← hAe]; exact Or.inr h
  have hS : va_S A s.heap s.heap [] := va_S.rf
  have hP : va_P D vwCl (wF [gN b0 b2 b1 x0, gR cL b2 x1]) s.heap := hP
  have hl := lv_entry ([.ref b0, .int p1, .int p2]) (n := 3) (Nat.le_of_ble_eq_true rfl)
  rw [lg_entry_eq]
  generalize (lg_sl ([.ref b0, .int p1, .int p2]) ++ List.replicate (3 - (lg_sl ([.ref b0, .int p1, .int p2])).length) Slot.unset).toArray = ls at hl ⊢
  have hl : lv_has ls 3 [(0, .ref b0), (1, .int p1), (2, .int p2)] := hl
  have hinX11 : ∀ w ∈ wsX110, w ∈ wsX11_setOutdoor := fun _ h => List.mem_cons_of_mem _ (List.mem_append_right _ h)
  refine lv_iload_n hx hb dX11_setOutdoor_0 rfl (lv_at hl 1 rfl) ?_
  have hPc : va_P D vwCl (wF []) s.heap := hP.sub [] rfl
  refine c_Ri (va_runS (As := [.int p1]) (rest := []) ⟨hx, hb, hml, hown, hts⟩ (m11_isHour l D cI cL cP p1 s.heap) (va_cwS 1 hts gX11_setOutdoor_X11_isHour rfl rfl rfl (by decide +kernel) ⟨Nat.le_of_ble_eq_true rfl, Nat.le_of_ble_eq_true rfl⟩) (preR_S hQ hPc) rfl rfl hl.1 rfl (lv_room (Nat.le_of_ble_eq_true rfl)) dX11_setOutdoor_1 ⟨Nat.le_of_ble_eq_true rfl, Nat.le_of_ble_eq_true rfl⟩) hS (fun locs hS => ?_)
  refine lv_if_eq (tgt := 21) hx hb dX11_setOutdoor_4 (by decide) (fun c1 => ?_) (fun c1 => ?_)
  · have c1 : ¬ ((F11_isHour p1) = true) := bI_0.mp c1
    refine lv_iconst (v := (-1 : Int32)) hx hb dX11_setOutdoor_21 (by decide) ?_
    exact W.iret (v := (-1 : Int32)) hx hb hr (fun t ht hW => ⟨⟨(-1 : Int32), (x0, x1), rfl, ((Eq.trans (if_neg c1) (rfl)).symm), by rw [ht]; exact hP, hD⟩, hS.F ht⟩) hS.2.2 dX11_setOutdoor_22
  · have c1 : (F11_isHour p1) = true := bI_1.mp c1
    refine lv_iload_n hx hb dX11_setOutdoor_7 rfl (lv_at hl 2 rfl) ?_
    refine lv_i2l hx hb dX11_setOutdoor_8 rfl ?_
    refine lv_ldc2 (own := RX11) (index := 80) (v := (-300 : Int64)) hx hb hown (hts (.constantLong RX11 80 (-300)) (List.mem_of_getElem? (i := 1) rfl)) dX11_setOutdoor_9 ?_
    refine lv_ldc2 (own := RX11) (index := 82) (v := (400 : Int64)) hx hb hown (hts (.constantLong RX11 82 (400)) (List.mem_of_getElem? (i := 2) rfl)) dX11_setOutdoor_12 ?_
    have hPc : va_P D vwCl (wF []) s.heap := hP.sub [] rfl
    refine c_Ri (va_runS (As := [.long p2.toInt64, .long (-300 : Int64), .long (400 : Int64)]) (rest := []) ⟨hx, hb, hml, hown, hts⟩ (m11_in l D cI cL cP p2.toInt64 (-300 : Int64) (400 : Int64) s.heap) (va_cwS 3 hts gX11_setOutdoor_X11_in rfl rfl rfl (by decide +kernel) ⟨Nat.le_of_ble_eq_true rfl, Nat.le_of_ble_eq_true rfl⟩) (preR_S hQ hPc) rfl rfl hl.1 rfl (lv_room (Nat.le_of_ble_eq_true rfl)) dX11_setOutdoor_15 ⟨Nat.le_of_ble_eq_true rfl, Nat.le_of_ble_eq_true rfl⟩) hS (fun locs hS => ?_)
    refine lv_if_ne (tgt := 23) hx hb dX11_setOutdoor_18 (by decide) (fun c2 => ?_) (fun c2 => ?_)
    · have c2 : (F11_in p2.toInt64 (-300 : Int64) (400 : Int64)) = true := bI_1.mp c2
      refine lv_aload_n hx hb dX11_setOutdoor_23 rfl (lv_at hl 0 rfl) ?_
      have hPc : va_P D vwCl (wF [gN b0 b2 b1 x0, gR cL b2 x1]) s.heap := w_psub hP [0, 1] rfl
      have hDc : va_D A (wF [gN b0 b2 b1 x0, gR cL b2 x1]) := w_gsub hD [0, 1] rfl rfl
      refine c_Mi (F := F11_records x0 x1) (G1 := (fun w => [gN b0 b2 b1 w.1, gR cL b2 w.2])) (Gr := []) (Gs' := fun z3 => [gN b0 b2 b1 z3.2.1, gR cL b2 z3.2.2]) (va_runV (As := []) (rest := []) ⟨hx, hb, hml, hown, hts⟩ (m11_records l D cI cL cP b0 b1 b2 x0 x1 (by omega) s.heap.size) (cwV 0 hts gX11_setOutdoor_X11_records rfl rfl rfl (by decide +kernel) ⟨Nat.le_of_ble_eq_true rfl, Nat.le_of_ble_eq_true rfl⟩) (preM_V (q := (RX11, TX11, 10)) (q0 := 0) hQ hPc hDc rfl rfl) rfl rfl hl.1 rfl (lv_room (Nat.le_of_ble_eq_true rfl)) dX11_setOutdoor_24 ⟨Nat.le_of_ble_eq_true rfl, Nat.le_of_ble_eq_true rfl⟩) hS hA hP hD [0, 1] [] [0, 1] rfl rfl rfl rfl rfl (fun _ => rfl) (fun z3 H locs hz3 hP hD hS => ?_)
      have hP : va_P D vwCl (wF [gN b0 b2 b1 z3.2.1, gR cL b2 z3.2.2]) H := hP
      have hD : va_D A (wF [gN b0 b2 b1 z3.2.1, gR cL b2 z3.2.2]) := hD
      refine lv_pop hx hb dX11_setOutdoor_27 rfl ?_
      refine lv_aload_n hx hb dX11_setOutdoor_28 rfl (lv_at hl 0 rfl) ?_
      refine va_get (D := D) (ci := 11) (v := .ref b2) (C := RX11) (T := TX11) (N := 10) hx hb hts hinX11 hown hQ.1 hP 0 rfl rfl 0 (by decide) (hts (.fieldLink RX11 7 "HeatPumpPlantModel" "row" "[J") (List.mem_of_getElem? (i := 3) rfl)) (fun _ h9 => h9) rfl dX11_setOutdoor_29 ?_
      refine lv_bipush (v := (17 : Int32)) hx hb dX11_setOutdoor_32 (by decide) ?_
      refine lv_iload_n hx hb dX11_setOutdoor_34 rfl (lv_at hl 1 rfl) ?_
      refine w_topn (p1.toNatClampNeg) (w_hrN c1) ?_
      refine lv_iadd hx hb dX11_setOutdoor_35 ?_
      refine lv_iload_n hx hb dX11_setOutdoor_36 rfl (lv_at hl 2 rfl) ?_
      refine lv_i2l hx hb dX11_setOutdoor_37 rfl ?_
      refine w_last (f := z3.2.2) (j := (17 + (p1.toNatClampNeg))) hx hb hQ.1 hP hD hS 1 1 rfl rfl ((congr (congrArg HAdd.hAdd (show (17 : Int32) = nI 17 from (rfl : (17 : Int32) = nI 17))) (show (nI (p1.toNatClampNeg)) = nI (p1.toNatClampNeg) from rfl)).trans (nI_add 17 (p1.toNatClampNeg))) (by have h9 := w_hrL c1; omega) (by decide) dX11_setOutdoor_38 (fun H locs hP hD hS => ?_)
      have hP : va_P D vwCl (wF [gN b0 b2 b1 z3.2.1, gR cL b2 (vp_updL z3.2.2 (17 + (p1.toNatClampNeg)) p2.toInt64)]) H := hP
      have hD : va_D A (wF [gN b0 b2 b1 z3.2.1, gR cL b2 (vp_updL z3.2.2 (17 + (p1.toNatClampNeg)) p2.toInt64)]) := hD
      refine lv_aload_n hx hb dX11_setOutdoor_39 rfl (lv_at hl 0 rfl) ?_
      refine va_get (D := D) (ci := 11) (v := .int (nI z3.2.1.1)) (C := RX11) (T := TX11) (N := 10) hx hb hts hinX11 hown hQ.1 hP 0 rfl rfl 1 (by decide) (hts (.fieldLink RX11 47 "HeatPumpPlantModel" "kept" "I") (List.mem_of_getElem? (i := 4) rfl)) (fun _ h9 => h9) rfl dX11_setOutdoor_40 ?_
      exact W.iret (v := (nI z3.2.1.1)) hx hb hr (fun t ht hW => ⟨⟨(nI z3.2.1.1), (z3.2.1, (vp_updL z3.2.2 (17 + (p1.toNatClampNeg)) p2.toInt64)), rfl, ((Eq.trans (if_pos c1) (Eq.trans (if_pos c2) (Eq.trans (congrArg (K11_setOutdoor_1 x0 x1 p1 p2) hz3.symm) (rfl)))).symm), by rw [ht]; exact hP, hD⟩, hS.F ht⟩) hS.2.2 dX11_setOutdoor_43
    · have c2 : ¬ ((F11_in p2.toInt64 (-300 : Int64) (400 : Int64)) = true) := bI_0.mp c2
      refine lv_iconst (v := (-1 : Int32)) hx hb dX11_setOutdoor_21 (by decide) ?_
      exact W.iret (v := (-1 : Int32)) hx hb hr (fun t ht hW => ⟨⟨(-1 : Int32), (x0, x1), rfl, ((Eq.trans (if_pos c1) (Eq.trans (if_neg c2) (rfl))).symm), by rw [ht]; exact hP, hD⟩, hS.F ht⟩) hS.2.2 dX11_setOutdoor_22
def K11_setTariff_1 (x0 : MoN) (x1 : (Nat → Int64)) (p1 : Int32) (p2 : Int32) (z3 : Int32 × MoN × (Nat → Int64)) : Int32 × MoN × (Nat → Int64) := ((nI z3.2.1.1), (z3.2.1, (vp_updL z3.2.2 (41 + (p1.toNatClampNeg)) p2.toInt64)))
def F11_setTariff (x0 : MoN) (x1 : (Nat → Int64)) (p1 : Int32) (p2 : Int32) : Int32 × MoN × (Nat → Int64) := (if (F11_isHour p1) = true then (if (F11_in p2.toInt64 (0 : Int64) (2 : Int64)) = true then (K11_setTariff_1 x0 x1 p1 p2 (F11_records x0 x1)) else ((-1 : Int32), (x0, x1))) else ((-1 : Int32), (x0, x1)))
set_option maxHeartbeats 4000000 in
set_option maxRecDepth 100000 in
theorem m11_setTariff (l : Launch) (D : va_G) (cI cL cP : ClassId) (b0 : Nat) (b1 : Nat) (b2 : Nat) (x0 : MoN) (x1 : (Nat → Int64)) (p1 : Int32) (p2 : Int32) (hk : x0.1 ≤ 4) (sz : Nat) : Met l yX11_setTariff wsX11_setTariff ({ frames := 2, cells := 0, slots := 0, locals := 45 }) (va_Pc [.ref b0, .int p1, .int p2] (pM D cI cL cP sz (wF [gN b0 b2 b1 x0, gR cL b2 x1]))) (va_Qi (fun (r : Int32) (w : MoN × (Nat → Int64)) => (r, w) = F11_setTariff x0 x1 p1 p2) (qW D (va_A (wF [gN b0 b2 b1 x0, gR cL b2 x1]) sz) (fun w : MoN × (Nat → Int64) => (wF [gN b0 b2 b1 w.1, gR cL b2 w.2]))) (va_A (wF [gN b0 b2 b1 x0, gR cL b2 x1]) sz)) 0 0 (va_A (wF [gN b0 b2 b1 x0, gR cL b2 x1]) sz) := by
  refine Met.ofW (cc := cX11_setTariff) (maxL := 3) (ret := (some .int)) (by decide) rfl ?_
  intro p e s m args below meth c s₁ B hml hv
  obtain ⟨rfl, hsz, hP, hQ, hD0⟩ := hv
  have hx := B.exec
  have hb := B.bytes
  have hr := B.returns
  have hts := atoms_spec (ws := wsX11_setTariff) B.pre
  have hown : s.vm.findClass RX11 = some m.cls := findClass_of_methodNamed B.named
  have hlocks := B.notSynchronized
  subst hsz
  have hD := hD0.self (sz := s.heap.size)
  generalize hAe : va_A (wF [gN b0 b2 b1 x0, gR cL b2 x1]) s.heap.size = A at hD ⊢
  have hA : ∀ q : Nat, s.heap.size ≤ q → A q := fun q h => by rw [← hAe]; exact Or.inr h
  have hS : va_S A s.heap s.heap [] := va_S.rf
  have hP : va_P D vwCl (wF [gN b0 b2 b1 x0, gR cL b2 x1]) s.heap := hP
  have hl := lv_entry ([.ref b0, .int p1, .int p2]) (n := 3) (Nat.le_of_ble_eq_true rfl)
  rw [lg_entry_eq]
  generalize (lg_sl ([.ref b0, .int p1, .int p2]) ++ List.replicate (3 - (lg_sl ([.ref b0, .int p1, .int p2])).length) Slot.unset).toArray = ls at hl ⊢
  have hl : lv_has ls 3 [(0, .ref b0), (1, .int p1), (2, .int p2)] := hl
  have hinX11 : ∀ w ∈ wsX110, w ∈ wsX11_setTariff := fun _ h => List.mem_cons_of_mem _ (List.mem_append_right _ h)
  refine lv_iload_n hx hb dX11_setTariff_0 rfl (lv_at hl 1 rfl) ?_
  have hPc : va_P D vwCl (wF []) s.heap := hP.sub [] rfl
  refine c_Ri (va_runS (As := [.int p1]) (rest := []) ⟨hx, hb, hml, hown, hts⟩ (m11_isHour l D cI cL cP p1 s.heap) (va_cwS 1 hts gX11_setTariff_X11_isHour rfl rfl rfl (by decide +kernel) ⟨Nat.le_of_ble_eq_true rfl, Nat.le_of_ble_eq_true rfl⟩) (preR_S hQ hPc) rfl rfl hl.1 rfl (lv_room (Nat.le_of_ble_eq_true rfl)) dX11_setTariff_1 ⟨Nat.le_of_ble_eq_true rfl, Nat.le_of_ble_eq_true rfl⟩) hS (fun locs hS => ?_)
  refine lv_if_eq (tgt := 19) hx hb dX11_setTariff_4 (by decide) (fun c1 => ?_) (fun c1 => ?_)
  · have c1 : ¬ ((F11_isHour p1) = true) := bI_0.mp c1
    refine lv_iconst (v := (-1 : Int32)) hx hb dX11_setTariff_19 (by decide) ?_
    exact W.iret (v := (-1 : Int32)) hx hb hr (fun t ht hW => ⟨⟨(-1 : Int32), (x0, x1), rfl, ((Eq.trans (if_neg c1) (rfl)).symm), by rw [ht]; exact hP, hD⟩, hS.F ht⟩) hS.2.2 dX11_setTariff_20
  · have c1 : (F11_isHour p1) = true := bI_1.mp c1
    refine lv_iload_n hx hb dX11_setTariff_7 rfl (lv_at hl 2 rfl) ?_
    refine lv_i2l hx hb dX11_setTariff_8 rfl ?_
    refine lv_lconst (v := (0 : Int64)) hx hb dX11_setTariff_9 rfl ?_
    refine lv_ldc2 (own := RX11) (index := 29) (v := (2 : Int64)) hx hb hown (hts (.constantLong RX11 29 (2)) (List.mem_of_getElem? (i := 1) rfl)) dX11_setTariff_10 ?_
    have hPc : va_P D vwCl (wF []) s.heap := hP.sub [] rfl
    refine c_Ri (va_runS (As := [.long p2.toInt64, .long (0 : Int64), .long (2 : Int64)]) (rest := []) ⟨hx, hb, hml, hown, hts⟩ (m11_in l D cI cL cP p2.toInt64 (0 : Int64) (2 : Int64) s.heap) (va_cwS 3 hts gX11_setTariff_X11_in rfl rfl rfl (by decide +kernel) ⟨Nat.le_of_ble_eq_true rfl, Nat.le_of_ble_eq_true rfl⟩) (preR_S hQ hPc) rfl rfl hl.1 rfl (lv_room (Nat.le_of_ble_eq_true rfl)) dX11_setTariff_13 ⟨Nat.le_of_ble_eq_true rfl, Nat.le_of_ble_eq_true rfl⟩) hS (fun locs hS => ?_)
    refine lv_if_ne (tgt := 21) hx hb dX11_setTariff_16 (by decide) (fun c2 => ?_) (fun c2 => ?_)
    · have c2 : (F11_in p2.toInt64 (0 : Int64) (2 : Int64)) = true := bI_1.mp c2
      refine lv_aload_n hx hb dX11_setTariff_21 rfl (lv_at hl 0 rfl) ?_
      have hPc : va_P D vwCl (wF [gN b0 b2 b1 x0, gR cL b2 x1]) s.heap := w_psub hP [0, 1] rfl
      have hDc : va_D A (wF [gN b0 b2 b1 x0, gR cL b2 x1]) := w_gsub hD [0, 1] rfl rfl
      refine c_Mi (F := F11_records x0 x1) (G1 := (fun w => [gN b0 b2 b1 w.1, gR cL b2 w.2])) (Gr := []) (Gs' := fun z3 => [gN b0 b2 b1 z3.2.1, gR cL b2 z3.2.2]) (va_runV (As := []) (rest := []) ⟨hx, hb, hml, hown, hts⟩ (m11_records l D cI cL cP b0 b1 b2 x0 x1 (by omega) s.heap.size) (cwV 0 hts gX11_setTariff_X11_records rfl rfl rfl (by decide +kernel) ⟨Nat.le_of_ble_eq_true rfl, Nat.le_of_ble_eq_true rfl⟩) (preM_V (q := (RX11, TX11, 10)) (q0 := 0) hQ hPc hDc rfl rfl) rfl rfl hl.1 rfl (lv_room (Nat.le_of_ble_eq_true rfl)) dX11_setTariff_22 ⟨Nat.le_of_ble_eq_true rfl, Nat.le_of_ble_eq_true rfl⟩) hS hA hP hD [0, 1] [] [0, 1] rfl rfl rfl rfl rfl (fun _ => rfl) (fun z3 H locs hz3 hP hD hS => ?_)
      have hP : va_P D vwCl (wF [gN b0 b2 b1 z3.2.1, gR cL b2 z3.2.2]) H := hP
      have hD : va_D A (wF [gN b0 b2 b1 z3.2.1, gR cL b2 z3.2.2]) := hD
      refine lv_pop hx hb dX11_setTariff_25 rfl ?_
      refine lv_aload_n hx hb dX11_setTariff_26 rfl (lv_at hl 0 rfl) ?_
      refine va_get (D := D) (ci := 11) (v := .ref b2) (C := RX11) (T := TX11) (N := 10) hx hb hts hinX11 hown hQ.1 hP 0 rfl rfl 0 (by decide) (hts (.fieldLink RX11 7 "HeatPumpPlantModel" "row" "[J") (List.mem_of_getElem? (i := 2) rfl)) (fun _ h9 => h9) rfl dX11_setTariff_27 ?_
      refine lv_bipush (v := (41 : Int32)) hx hb dX11_setTariff_30 (by decide) ?_
      refine lv_iload_n hx hb dX11_setTariff_32 rfl (lv_at hl 1 rfl) ?_
      refine w_topn (p1.toNatClampNeg) (w_hrN c1) ?_
      refine lv_iadd hx hb dX11_setTariff_33 ?_
      refine lv_iload_n hx hb dX11_setTariff_34 rfl (lv_at hl 2 rfl) ?_
      refine lv_i2l hx hb dX11_setTariff_35 rfl ?_
      refine w_last (f := z3.2.2) (j := (41 + (p1.toNatClampNeg))) hx hb hQ.1 hP hD hS 1 1 rfl rfl ((congr (congrArg HAdd.hAdd (show (41 : Int32) = nI 41 from (rfl : (41 : Int32) = nI 41))) (show (nI (p1.toNatClampNeg)) = nI (p1.toNatClampNeg) from rfl)).trans (nI_add 41 (p1.toNatClampNeg))) (by have h9 := w_hrL c1; omega) (by decide) dX11_setTariff_36 (fun H locs hP hD hS => ?_)
      have hP : va_P D vwCl (wF [gN b0 b2 b1 z3.2.1, gR cL b2 (vp_updL z3.2.2 (41 + (p1.toNatClampNeg)) p2.toInt64)]) H := hP
      have hD : va_D A (wF [gN b0 b2 b1 z3.2.1, gR cL b2 (vp_updL z3.2.2 (41 + (p1.toNatClampNeg)) p2.toInt64)]) := hD
      refine lv_aload_n hx hb dX11_setTariff_37 rfl (lv_at hl 0 rfl) ?_
      refine va_get (D := D) (ci := 11) (v := .int (nI z3.2.1.1)) (C := RX11) (T := TX11) (N := 10) hx hb hts hinX11 hown hQ.1 hP 0 rfl rfl 1 (by decide) (hts (.fieldLink RX11 47 "HeatPumpPlantModel" "kept" "I") (List.mem_of_getElem? (i := 3) rfl)) (fun _ h9 => h9) rfl dX11_setTariff_38 ?_
      exact W.iret (v := (nI z3.2.1.1)) hx hb hr (fun t ht hW => ⟨⟨(nI z3.2.1.1), (z3.2.1, (vp_updL z3.2.2 (41 + (p1.toNatClampNeg)) p2.toInt64)), rfl, ((Eq.trans (if_pos c1) (Eq.trans (if_pos c2) (Eq.trans (congrArg (K11_setTariff_1 x0 x1 p1 p2) hz3.symm) (rfl)))).symm), by rw [ht]; exact hP, hD⟩, hS.F ht⟩) hS.2.2 dX11_setTariff_41
    · have c2 : ¬ ((F11_in p2.toInt64 (0 : Int64) (2 : Int64)) = true) := bI_0.mp c2
      refine lv_iconst (v := (-1 : Int32)) hx hb dX11_setTariff_19 (by decide) ?_
      exact W.iret (v := (-1 : Int32)) hx hb hr (fun t ht hW => ⟨⟨(-1 : Int32), (x0, x1), rfl, ((Eq.trans (if_pos c1) (Eq.trans (if_neg c2) (rfl))).symm), by rw [ht]; exact hP, hD⟩, hS.F ht⟩) hS.2.2 dX11_setTariff_20
def K11_setPrice_1 (x0 : MoN) (x1 : (Nat → Int64)) (p1 : Int32) (p2 : Int32) (z3 : Int32 × MoN × (Nat → Int64)) : Int32 × MoN × (Nat → Int64) := ((nI z3.2.1.1), (z3.2.1, (vp_updL z3.2.2 (65 + (p1.toNatClampNeg)) p2.toInt64)))
def F11_setPrice (x0 : MoN) (x1 : (Nat → Int64)) (p1 : Int32) (p2 : Int32) : Int32 × MoN × (Nat → Int64) := (if (F11_in p1.toInt64 (0 : Int64) (2 : Int64)) = true then (if (F11_in p2.toInt64 (0 : Int64) (1000 : Int64)) = true then (K11_setPrice_1 x0 x1 p1 p2 (F11_records x0 x1)) else ((-1 : Int32), (x0, x1))) else ((-1 : Int32), (x0, x1)))
set_option maxHeartbeats 4000000 in
set_option maxRecDepth 100000 in
theorem m11_setPrice (l : Launch) (D : va_G) (cI cL cP : ClassId) (b0 : Nat) (b1 : Nat) (b2 : Nat) (x0 : MoN) (x1 : (Nat → Int64)) (p1 : Int32) (p2 : Int32) (hk : x0.1 ≤ 4) (sz : Nat) : Met l yX11_setPrice wsX11_setPrice ({ frames := 2, cells := 0, slots := 0, locals := 44 }) (va_Pc [.ref b0, .int p1, .int p2] (pM D cI cL cP sz (wF [gN b0 b2 b1 x0, gR cL b2 x1]))) (va_Qi (fun (r : Int32) (w : MoN × (Nat → Int64)) => (r, w) = F11_setPrice x0 x1 p1 p2) (qW D (va_A (wF [gN b0 b2 b1 x0, gR cL b2 x1]) sz) (fun w : MoN × (Nat → Int64) => (wF [gN b0 b2 b1 w.1, gR cL b2 w.2]))) (va_A (wF [gN b0 b2 b1 x0, gR cL b2 x1]) sz)) 0 0 (va_A (wF [gN b0 b2 b1 x0, gR cL b2 x1]) sz) := by
  refine Met.ofW (cc := cX11_setPrice) (maxL := 3) (ret := (some .int)) (by decide) rfl ?_
  intro p e s m args below meth c s₁ B hml hv
  obtain ⟨rfl, hsz, hP, hQ, hD0⟩ := hv
  have hx := B.exec
  have hb := B.bytes
  have hr := B.returns
  have hts := atoms_spec (ws := wsX11_setPrice) B.pre
  have hown : s.vm.findClass RX11 = some m.cls := findClass_of_methodNamed B.named
  have hlocks := B.notSynchronized
  subst hsz
  have hD := hD0.self (sz := s.heap.size)
  generalize hAe : va_A (wF [gN b0 b2 b1 x0, gR cL b2 x1]) s.heap.size = A at hD ⊢
  have hA : ∀ q : Nat, s.heap.size ≤ q → A q := fun q h => by rw [← hAe]; exact Or.inr h
  have hS : va_S A s.heap s.heap [] := va_S.rf
  have hP : va_P D vwCl (wF [gN b0 b2 b1 x0, gR cL b2 x1]) s.heap := hP
  have hl := lv_entry ([.ref b0, .int p1, .int p2]) (n := 3) (Nat.le_of_ble_eq_true rfl)
  rw [lg_entry_eq]
  generalize (lg_sl ([.ref b0, .int p1, .int p2]) ++ List.replicate (3 - (lg_sl ([.ref b0, .int p1, .int p2])).length) Slot.unset).toArray = ls at hl ⊢
  have hl : lv_has ls 3 [(0, .ref b0), (1, .int p1), (2, .int p2)] := hl
  have hinX11 : ∀ w ∈ wsX110, w ∈ wsX11_setPrice := fun _ h => List.mem_cons_of_mem _ (List.mem_append_right _ h)
  refine lv_iload_n hx hb dX11_setPrice_0 rfl (lv_at hl 1 rfl) ?_
  refine lv_i2l hx hb dX11_setPrice_1 rfl ?_
  refine lv_lconst (v := (0 : Int64)) hx hb dX11_setPrice_2 rfl ?_
  refine lv_ldc2 (own := RX11) (index := 29) (v := (2 : Int64)) hx hb hown (hts (.constantLong RX11 29 (2)) (List.mem_of_getElem? (i := 1) rfl)) dX11_setPrice_3 ?_
  have hPc : va_P D vwCl (wF []) s.heap := hP.sub [] rfl
  refine c_Ri (va_runS (As := [.long p1.toInt64, .long (0 : Int64), .long (2 : Int64)]) (rest := []) ⟨hx, hb, hml, hown, hts⟩ (m11_in l D cI cL cP p1.toInt64 (0 : Int64) (2 : Int64) s.heap) (va_cwS 3 hts gX11_setPrice_X11_in rfl rfl rfl (by decide +kernel) ⟨Nat.le_of_ble_eq_true rfl, Nat.le_of_ble_eq_true rfl⟩) (preR_S hQ hPc) rfl rfl hl.1 rfl (lv_room (Nat.le_of_ble_eq_true rfl)) dX11_setPrice_6 ⟨Nat.le_of_ble_eq_true rfl, Nat.le_of_ble_eq_true rfl⟩) hS (fun locs hS => ?_)
  refine lv_if_eq (tgt := 24) hx hb dX11_setPrice_9 (by decide) (fun c1 => ?_) (fun c1 => ?_)
  · have c1 : ¬ ((F11_in p1.toInt64 (0 : Int64) (2 : Int64)) = true) := bI_0.mp c1
    refine lv_iconst (v := (-1 : Int32)) hx hb dX11_setPrice_24 (by decide) ?_
    exact W.iret (v := (-1 : Int32)) hx hb hr (fun t ht hW => ⟨⟨(-1 : Int32), (x0, x1), rfl, ((Eq.trans (if_neg c1) (rfl)).symm), by rw [ht]; exact hP, hD⟩, hS.F ht⟩) hS.2.2 dX11_setPrice_25
  · have c1 : (F11_in p1.toInt64 (0 : Int64) (2 : Int64)) = true := bI_1.mp c1
    refine lv_iload_n hx hb dX11_setPrice_12 rfl (lv_at hl 2 rfl) ?_
    refine lv_i2l hx hb dX11_setPrice_13 rfl ?_
    refine lv_lconst (v := (0 : Int64)) hx hb dX11_setPrice_14 rfl ?_
    refine lv_ldc2 (own := RX11) (index := 43) (v := (1000 : Int64)) hx hb hown (hts (.constantLong RX11 43 (1000)) (List.mem_of_getElem? (i := 2) rfl)) dX11_setPrice_15 ?_
    have hPc : va_P D vwCl (wF []) s.heap := hP.sub [] rfl
    refine c_Ri (va_runS (As := [.long p2.toInt64, .long (0 : Int64), .long (1000 : Int64)]) (rest := []) ⟨hx, hb, hml, hown, hts⟩ (m11_in l D cI cL cP p2.toInt64 (0 : Int64) (1000 : Int64) s.heap) (va_cwS 3 hts gX11_setPrice_X11_in rfl rfl rfl (by decide +kernel) ⟨Nat.le_of_ble_eq_true rfl, Nat.le_of_ble_eq_true rfl⟩) (preR_S hQ hPc) rfl rfl hl.1 rfl (lv_room (Nat.le_of_ble_eq_true rfl)) dX11_setPrice_18 ⟨Nat.le_of_ble_eq_true rfl, Nat.le_of_ble_eq_true rfl⟩) hS (fun locs hS => ?_)
    refine lv_if_ne (tgt := 26) hx hb dX11_setPrice_21 (by decide) (fun c2 => ?_) (fun c2 => ?_)
    · have c2 : (F11_in p2.toInt64 (0 : Int64) (1000 : Int64)) = true := bI_1.mp c2
      refine lv_aload_n hx hb dX11_setPrice_26 rfl (lv_at hl 0 rfl) ?_
      have hPc : va_P D vwCl (wF [gN b0 b2 b1 x0, gR cL b2 x1]) s.heap := w_psub hP [0, 1] rfl
      have hDc : va_D A (wF [gN b0 b2 b1 x0, gR cL b2 x1]) := w_gsub hD [0, 1] rfl rfl
      refine c_Mi (F := F11_records x0 x1) (G1 := (fun w => [gN b0 b2 b1 w.1, gR cL b2 w.2])) (Gr := []) (Gs' := fun z3 => [gN b0 b2 b1 z3.2.1, gR cL b2 z3.2.2]) (va_runV (As := []) (rest := []) ⟨hx, hb, hml, hown, hts⟩ (m11_records l D cI cL cP b0 b1 b2 x0 x1 (by omega) s.heap.size) (cwV 0 hts gX11_setPrice_X11_records rfl rfl rfl (by decide +kernel) ⟨Nat.le_of_ble_eq_true rfl, Nat.le_of_ble_eq_true rfl⟩) (preM_V (q := (RX11, TX11, 10)) (q0 := 0) hQ hPc hDc rfl rfl) rfl rfl hl.1 rfl (lv_room (Nat.le_of_ble_eq_true rfl)) dX11_setPrice_27 ⟨Nat.le_of_ble_eq_true rfl, Nat.le_of_ble_eq_true rfl⟩) hS hA hP hD [0, 1] [] [0, 1] rfl rfl rfl rfl rfl (fun _ => rfl) (fun z3 H locs hz3 hP hD hS => ?_)
      have hP : va_P D vwCl (wF [gN b0 b2 b1 z3.2.1, gR cL b2 z3.2.2]) H := hP
      have hD : va_D A (wF [gN b0 b2 b1 z3.2.1, gR cL b2 z3.2.2]) := hD
      refine lv_pop hx hb dX11_setPrice_30 rfl ?_
      refine lv_aload_n hx hb dX11_setPrice_31 rfl (lv_at hl 0 rfl) ?_
      refine va_get (D := D) (ci := 11) (v := .ref b2) (C := RX11) (T := TX11) (N := 10) hx hb hts hinX11 hown hQ.1 hP 0 rfl rfl 0 (by decide) (hts (.fieldLink RX11 7 "HeatPumpPlantModel" "row" "[J") (List.mem_of_getElem? (i := 3) rfl)) (fun _ h9 => h9) rfl dX11_setPrice_32 ?_
      refine lv_bipush (v := (65 : Int32)) hx hb dX11_setPrice_35 (by decide) ?_
      refine lv_iload_n hx hb dX11_setPrice_37 rfl (lv_at hl 1 rfl) ?_
      refine w_topn (p1.toNatClampNeg) (w_inN c1 (by decide)) ?_
      refine lv_iadd hx hb dX11_setPrice_38 ?_
      refine lv_iload_n hx hb dX11_setPrice_39 rfl (lv_at hl 2 rfl) ?_
      refine lv_i2l hx hb dX11_setPrice_40 rfl ?_
      refine w_last (f := z3.2.2) (j := (65 + (p1.toNatClampNeg))) hx hb hQ.1 hP hD hS 1 1 rfl rfl ((congr (congrArg HAdd.hAdd (show (65 : Int32) = nI 65 from (rfl : (65 : Int32) = nI 65))) (show (nI (p1.toNatClampNeg)) = nI (p1.toNatClampNeg) from rfl)).trans (nI_add 65 (p1.toNatClampNeg))) (by have h9 := w_inL (n := 3) c1 (by decide) (by decide); omega) (by decide) dX11_setPrice_41 (fun H locs hP hD hS => ?_)
      have hP : va_P D vwCl (wF [gN b0 b2 b1 z3.2.1, gR cL b2 (vp_updL z3.2.2 (65 + (p1.toNatClampNeg)) p2.toInt64)]) H := hP
      have hD : va_D A (wF [gN b0 b2 b1 z3.2.1, gR cL b2 (vp_updL z3.2.2 (65 + (p1.toNatClampNeg)) p2.toInt64)]) := hD
      refine lv_aload_n hx hb dX11_setPrice_42 rfl (lv_at hl 0 rfl) ?_
      refine va_get (D := D) (ci := 11) (v := .int (nI z3.2.1.1)) (C := RX11) (T := TX11) (N := 10) hx hb hts hinX11 hown hQ.1 hP 0 rfl rfl 1 (by decide) (hts (.fieldLink RX11 47 "HeatPumpPlantModel" "kept" "I") (List.mem_of_getElem? (i := 4) rfl)) (fun _ h9 => h9) rfl dX11_setPrice_43 ?_
      exact W.iret (v := (nI z3.2.1.1)) hx hb hr (fun t ht hW => ⟨⟨(nI z3.2.1.1), (z3.2.1, (vp_updL z3.2.2 (65 + (p1.toNatClampNeg)) p2.toInt64)), rfl, ((Eq.trans (if_pos c1) (Eq.trans (if_pos c2) (Eq.trans (congrArg (K11_setPrice_1 x0 x1 p1 p2) hz3.symm) (rfl)))).symm), by rw [ht]; exact hP, hD⟩, hS.F ht⟩) hS.2.2 dX11_setPrice_46
    · have c2 : ¬ ((F11_in p2.toInt64 (0 : Int64) (1000 : Int64)) = true) := bI_0.mp c2
      refine lv_iconst (v := (-1 : Int32)) hx hb dX11_setPrice_24 (by decide) ?_
      exact W.iret (v := (-1 : Int32)) hx hb hr (fun t ht hW => ⟨⟨(-1 : Int32), (x0, x1), rfl, ((Eq.trans (if_pos c1) (Eq.trans (if_neg c2) (rfl))).symm), by rw [ht]; exact hP, hD⟩, hS.F ht⟩) hS.2.2 dX11_setPrice_25
def F11_outdoor (x1 : (Nat → Int64)) (p1 : Int32) : Int32 := (if (F11_isHour p1) = true then ((x1 (17 + (p1.toNatClampNeg))).toInt32) else (-9999 : Int32))
set_option maxHeartbeats 4000000 in
set_option maxRecDepth 100000 in
theorem m11_outdoor (l : Launch) (D : va_G) (cI cL cP : ClassId) (b0 : Nat) (b1 : Nat) (b2 : Nat) (x0 : MoN) (x1 : (Nat → Int64)) (p1 : Int32) (H0 : Heap) : Met l yX11_outdoor wsX11_outdoor ({ frames := 2, cells := 0, slots := 0, locals := 45 }) (va_Pc [.ref b0, .int p1] (pR D cI cL cP H0 (wF [gN b0 b2 b1 x0, gR cL b2 x1]))) (va_Qi (fun (r : Int32) (_ : Unit) => r = F11_outdoor x1 p1) (qE H0) nF) 0 0 nF := by
  refine Met.ofW (cc := cX11_outdoor) (maxL := 2) (ret := (some .int)) (by decide) rfl ?_
  intro p e s m args below meth c s₁ B hml hv
  obtain ⟨rfl, rfl, hP, hQ⟩ := hv
  have hx := B.exec
  have hb := B.bytes
  have hr := B.returns
  have hts := atoms_spec (ws := wsX11_outdoor) B.pre
  have hown : s.vm.findClass RX11 = some m.cls := findClass_of_methodNamed B.named
  have hlocks := B.notSynchronized
  have hS : va_S nF s.heap s.heap [] := va_S.rf
  have hl := lv_entry ([.ref b0, .int p1]) (n := 2) (Nat.le_of_ble_eq_true rfl)
  rw [lg_entry_eq]
  generalize (lg_sl ([.ref b0, .int p1]) ++ List.replicate (2 - (lg_sl ([.ref b0, .int p1])).length) Slot.unset).toArray = ls at hl ⊢
  have hl : lv_has ls 2 [(0, .ref b0), (1, .int p1)] := hl
  have hinX11 : ∀ w ∈ wsX110, w ∈ wsX11_outdoor := fun _ h => List.mem_cons_of_mem _ (List.mem_append_right _ h)
  refine lv_iload_n hx hb dX11_outdoor_0 rfl (lv_at hl 1 rfl) ?_
  have hPc : va_P D vwCl (wF []) s.heap := hP.sub [] rfl
  refine c_Ri (va_runS (As := [.int p1]) (rest := []) ⟨hx, hb, hml, hown, hts⟩ (m11_isHour l D cI cL cP p1 s.heap) (va_cwS 1 hts gX11_outdoor_X11_isHour rfl rfl rfl (by decide +kernel) ⟨Nat.le_of_ble_eq_true rfl, Nat.le_of_ble_eq_true rfl⟩) (preR_S hQ hPc) rfl rfl hl.1 rfl (lv_room (Nat.le_of_ble_eq_true rfl)) dX11_outdoor_1 ⟨Nat.le_of_ble_eq_true rfl, Nat.le_of_ble_eq_true rfl⟩) hS (fun locs hS => ?_)
  refine lv_if_eq (tgt := 20) hx hb dX11_outdoor_4 (by decide) (fun c1 => ?_) (fun c1 => ?_)
  · have c1 : ¬ ((F11_isHour p1) = true) := bI_0.mp c1
    refine lv_sipush (v := (-9999 : Int32)) hx hb dX11_outdoor_20 (by decide) ?_
    exact W.iret (v := (-9999 : Int32)) hx hb hr (fun t ht hW => ⟨⟨(-9999 : Int32), (), rfl, ((Eq.trans (if_neg c1) (rfl)).symm), ht⟩, hS.F ht⟩) hS.2.2 dX11_outdoor_23
  · have c1 : (F11_isHour p1) = true := bI_1.mp c1
    refine lv_aload_n hx hb dX11_outdoor_7 rfl (lv_at hl 0 rfl) ?_
    refine va_get (D := D) (ci := 11) (v := .ref b2) (C := RX11) (T := TX11) (N := 10) hx hb hts hinX11 hown hQ.1 hP 0 rfl rfl 0 (by decide) (hts (.fieldLink RX11 7 "HeatPumpPlantModel" "row" "[J") (List.mem_of_getElem? (i := 1) rfl)) (fun _ h9 => h9) rfl dX11_outdoor_8 ?_
    refine lv_bipush (v := (17 : Int32)) hx hb dX11_outdoor_11 (by decide) ?_
    refine lv_iload_n hx hb dX11_outdoor_13 rfl (lv_at hl 1 rfl) ?_
    refine w_topn (p1.toNatClampNeg) (w_hrN c1) ?_
    refine lv_iadd hx hb dX11_outdoor_14 ?_
    refine w_lald (f := x1) (j := (17 + (p1.toNatClampNeg))) hx hb hQ.1 hP 1 1 rfl rfl ((congr (congrArg HAdd.hAdd (show (17 : Int32) = nI 17 from (rfl : (17 : Int32) = nI 17))) (show (nI (p1.toNatClampNeg)) = nI (p1.toNatClampNeg) from rfl)).trans (nI_add 17 (p1.toNatClampNeg))) (by have h9 := w_hrL c1; omega) (by decide) dX11_outdoor_15 ?_
    refine lv_l2i hx hb dX11_outdoor_16 rfl ?_
    refine lv_goto (tgt := 23) hx hb dX11_outdoor_17 (by decide) ?_
    exact W.iret (v := (x1 (17 + (p1.toNatClampNeg))).toInt32) hx hb hr (fun t ht hW => ⟨⟨(x1 (17 + (p1.toNatClampNeg))).toInt32, (), rfl, ((Eq.trans (if_pos c1) (rfl)).symm), ht⟩, hS.F ht⟩) hS.2.2 dX11_outdoor_23
def F11_tariff (x1 : (Nat → Int64)) (p1 : Int32) : Int32 := (if (F11_isHour p1) = true then ((x1 (41 + (p1.toNatClampNeg))).toInt32) else (-9999 : Int32))
set_option maxHeartbeats 4000000 in
set_option maxRecDepth 100000 in
theorem m11_tariff (l : Launch) (D : va_G) (cI cL cP : ClassId) (b0 : Nat) (b1 : Nat) (b2 : Nat) (x0 : MoN) (x1 : (Nat → Int64)) (p1 : Int32) (H0 : Heap) : Met l yX11_tariff wsX11_tariff ({ frames := 2, cells := 0, slots := 0, locals := 45 }) (va_Pc [.ref b0, .int p1] (pR D cI cL cP H0 (wF [gN b0 b2 b1 x0, gR cL b2 x1]))) (va_Qi (fun (r : Int32) (_ : Unit) => r = F11_tariff x1 p1) (qE H0) nF) 0 0 nF := by
  refine Met.ofW (cc := cX11_tariff) (maxL := 2) (ret := (some .int)) (by decide) rfl ?_
  intro p e s m args below meth c s₁ B hml hv
  obtain ⟨rfl, rfl, hP, hQ⟩ := hv
  have hx := B.exec
  have hb := B.bytes
  have hr := B.returns
  have hts := atoms_spec (ws := wsX11_tariff) B.pre
  have hown : s.vm.findClass RX11 = some m.cls := findClass_of_methodNamed B.named
  have hlocks := B.notSynchronized
  have hS : va_S nF s.heap s.heap [] := va_S.rf
  have hl := lv_entry ([.ref b0, .int p1]) (n := 2) (Nat.le_of_ble_eq_true rfl)
  rw [lg_entry_eq]
  generalize (lg_sl ([.ref b0, .int p1]) ++ List.replicate (2 - (lg_sl ([.ref b0, .int p1])).length) Slot.unset).toArray = ls at hl ⊢
  have hl : lv_has ls 2 [(0, .ref b0), (1, .int p1)] := hl
  have hinX11 : ∀ w ∈ wsX110, w ∈ wsX11_tariff := fun _ h => List.mem_cons_of_mem _ (List.mem_append_right _ h)
  refine lv_iload_n hx hb dX11_tariff_0 rfl (lv_at hl 1 rfl) ?_
  have hPc : va_P D vwCl (wF []) s.heap := hP.sub [] rfl
  refine c_Ri (va_runS (As := [.int p1]) (rest := []) ⟨hx, hb, hml, hown, hts⟩ (m11_isHour l D cI cL cP p1 s.heap) (va_cwS 1 hts gX11_tariff_X11_isHour rfl rfl rfl (by decide +kernel) ⟨Nat.le_of_ble_eq_true rfl, Nat.le_of_ble_eq_true rfl⟩) (preR_S hQ hPc) rfl rfl hl.1 rfl (lv_room (Nat.le_of_ble_eq_true rfl)) dX11_tariff_1 ⟨Nat.le_of_ble_eq_true rfl, Nat.le_of_ble_eq_true rfl⟩) hS (fun locs hS => ?_)
  refine lv_if_eq (tgt := 20) hx hb dX11_tariff_4 (by decide) (fun c1 => ?_) (fun c1 => ?_)
  · have c1 : ¬ ((F11_isHour p1) = true) := bI_0.mp c1
    refine lv_sipush (v := (-9999 : Int32)) hx hb dX11_tariff_20 (by decide) ?_
    exact W.iret (v := (-9999 : Int32)) hx hb hr (fun t ht hW => ⟨⟨(-9999 : Int32), (), rfl, ((Eq.trans (if_neg c1) (rfl)).symm), ht⟩, hS.F ht⟩) hS.2.2 dX11_tariff_23
  · have c1 : (F11_isHour p1) = true := bI_1.mp c1
    refine lv_aload_n hx hb dX11_tariff_7 rfl (lv_at hl 0 rfl) ?_
    refine va_get (D := D) (ci := 11) (v := .ref b2) (C := RX11) (T := TX11) (N := 10) hx hb hts hinX11 hown hQ.1 hP 0 rfl rfl 0 (by decide) (hts (.fieldLink RX11 7 "HeatPumpPlantModel" "row" "[J") (List.mem_of_getElem? (i := 1) rfl)) (fun _ h9 => h9) rfl dX11_tariff_8 ?_
    refine lv_bipush (v := (41 : Int32)) hx hb dX11_tariff_11 (by decide) ?_
    refine lv_iload_n hx hb dX11_tariff_13 rfl (lv_at hl 1 rfl) ?_
    refine w_topn (p1.toNatClampNeg) (w_hrN c1) ?_
    refine lv_iadd hx hb dX11_tariff_14 ?_
    refine w_lald (f := x1) (j := (41 + (p1.toNatClampNeg))) hx hb hQ.1 hP 1 1 rfl rfl ((congr (congrArg HAdd.hAdd (show (41 : Int32) = nI 41 from (rfl : (41 : Int32) = nI 41))) (show (nI (p1.toNatClampNeg)) = nI (p1.toNatClampNeg) from rfl)).trans (nI_add 41 (p1.toNatClampNeg))) (by have h9 := w_hrL c1; omega) (by decide) dX11_tariff_15 ?_
    refine lv_l2i hx hb dX11_tariff_16 rfl ?_
    refine lv_goto (tgt := 23) hx hb dX11_tariff_17 (by decide) ?_
    exact W.iret (v := (x1 (41 + (p1.toNatClampNeg))).toInt32) hx hb hr (fun t ht hW => ⟨⟨(x1 (41 + (p1.toNatClampNeg))).toInt32, (), rfl, ((Eq.trans (if_pos c1) (rfl)).symm), ht⟩, hS.F ht⟩) hS.2.2 dX11_tariff_23
def F11_demandOf (x1 : (Nat → Int64)) (p1 : Nat) : Int64 := (if (0 : Int64) ≤ (F11_div (((F11_set1 x1 15) - (x1 (17 + p1))) * (F11_set1 x1 16)) (10 : Int64)) then (F11_div (((F11_set1 x1 15) - (x1 (17 + p1))) * (F11_set1 x1 16)) (10 : Int64)) else (0 : Int64))
set_option maxHeartbeats 4000000 in
set_option maxRecDepth 100000 in
theorem m11_demandOf (l : Launch) (D : va_G) (cI cL cP : ClassId) (b0 : Nat) (b1 : Nat) (b2 : Nat) (x0 : MoN) (x1 : (Nat → Int64)) (p1 : Nat) (hp : p1 < 24) (H0 : Heap) : Met l yX11_demandOf wsX11_demandOf ({ frames := 1, cells := 0, slots := 0, locals := 25 }) (va_Pc [.ref b0, .int (nI p1)] (pR D cI cL cP H0 (wF [gN b0 b2 b1 x0, gR cL b2 x1]))) (va_Ql (fun (r : Int64) (_ : Unit) => r = F11_demandOf x1 p1) (qE H0) nF) 0 0 nF := by
  refine Met.ofW (cc := cX11_demandOf) (maxL := 4) (ret := (some .long)) (by decide) rfl ?_
  intro p e s m args below meth c s₁ B hml hv
  obtain ⟨rfl, rfl, hP, hQ⟩ := hv
  have hx := B.exec
  have hb := B.bytes
  have hr := B.returns
  have hts := atoms_spec (ws := wsX11_demandOf) B.pre
  have hown : s.vm.findClass RX11 = some m.cls := findClass_of_methodNamed B.named
  have hlocks := B.notSynchronized
  have hS : va_S nF s.heap s.heap [] := va_S.rf
  have hl := lv_entry ([.ref b0, .int (nI p1)]) (n := 4) (Nat.le_of_ble_eq_true rfl)
  rw [lg_entry_eq]
  generalize (lg_sl ([.ref b0, .int (nI p1)]) ++ List.replicate (4 - (lg_sl ([.ref b0, .int (nI p1)])).length) Slot.unset).toArray = ls at hl ⊢
  have hl : lv_has ls 4 [(0, .ref b0), (1, .int (nI p1))] := hl
  have hinX11 : ∀ w ∈ wsX110, w ∈ wsX11_demandOf := fun _ h => List.mem_cons_of_mem _ (List.mem_append_right _ h)
  refine lv_aload_n hx hb dX11_demandOf_0 rfl (lv_at hl 0 rfl) ?_
  refine lv_bipush (v := (15 : Int32)) hx hb dX11_demandOf_1 (by decide) ?_
  have hPc : va_P D vwCl (wF [gN b0 b2 b1 x0, gR cL b2 x1]) s.heap := hP.sub [0, 1] rfl
  refine c_Rl (va_runV (As := [.int (nI 15)]) (rest := []) ⟨hx, hb, hml, hown, hts⟩ (m11_set1 l D cI cL cP b0 b1 b2 x0 x1 15 (by omega) s.heap) (cwV 1 hts gX11_demandOf_X11_set1 rfl rfl rfl (by decide +kernel) ⟨Nat.le_of_ble_eq_true rfl, Nat.le_of_ble_eq_true rfl⟩) (preR_V (q := (RX11, TX11, 10)) (q0 := 0) hQ hPc rfl rfl) rfl rfl hl.1 rfl (lv_room (Nat.le_of_ble_eq_true rfl)) dX11_demandOf_3 ⟨Nat.le_of_ble_eq_true rfl, Nat.le_of_ble_eq_true rfl⟩) hS (fun locs hS => ?_)
  refine lv_aload_n hx hb dX11_demandOf_6 rfl (lv_at hl 0 rfl) ?_
  refine va_get (D := D) (ci := 11) (v := .ref b2) (C := RX11) (T := TX11) (N := 10) hx hb hts hinX11 hown hQ.1 hP 0 rfl rfl 0 (by decide) (hts (.fieldLink RX11 7 "HeatPumpPlantModel" "row" "[J") (List.mem_of_getElem? (i := 1) rfl)) (fun _ h9 => h9) rfl dX11_demandOf_7 ?_
  refine lv_bipush (v := (17 : Int32)) hx hb dX11_demandOf_10 (by decide) ?_
  refine lv_iload_n hx hb dX11_demandOf_12 rfl (lv_at hl 1 rfl) ?_
  refine lv_iadd hx hb dX11_demandOf_13 ?_
  refine w_lald (f := x1) (j := (17 + p1)) hx hb hQ.1 hP 1 1 rfl rfl ((congr (congrArg HAdd.hAdd (show (17 : Int32) = nI 17 from (rfl : (17 : Int32) = nI 17))) (show (nI p1) = nI p1 from rfl)).trans (nI_add 17 p1)) (by omega) (by decide) dX11_demandOf_14 ?_
  refine lv_lsub hx hb dX11_demandOf_15 ?_
  refine lv_aload_n hx hb dX11_demandOf_16 rfl (lv_at hl 0 rfl) ?_
  refine lv_bipush (v := (16 : Int32)) hx hb dX11_demandOf_17 (by decide) ?_
  have hPc : va_P D vwCl (wF [gN b0 b2 b1 x0, gR cL b2 x1]) s.heap := hP.sub [0, 1] rfl
  refine c_Rl (va_runV (As := [.int (nI 16)]) (rest := [.long ((F11_set1 x1 15) - (x1 (17 + p1)))]) ⟨hx, hb, hml, hown, hts⟩ (m11_set1 l D cI cL cP b0 b1 b2 x0 x1 16 (by omega) s.heap) (cwV 1 hts gX11_demandOf_X11_set1 rfl rfl rfl (by decide +kernel) ⟨Nat.le_of_ble_eq_true rfl, Nat.le_of_ble_eq_true rfl⟩) (preR_V (q := (RX11, TX11, 10)) (q0 := 0) hQ hPc rfl rfl) rfl rfl hl.1 rfl (lv_room (Nat.le_of_ble_eq_true rfl)) dX11_demandOf_19 ⟨Nat.le_of_ble_eq_true rfl, Nat.le_of_ble_eq_true rfl⟩) hS (fun locs hS => ?_)
  refine lv_lmul hx hb dX11_demandOf_22 ?_
  refine lv_ldc2 (own := RX11) (index := 23) (v := (10 : Int64)) hx hb hown (hts (.constantLong RX11 23 (10)) (List.mem_of_getElem? (i := 2) rfl)) dX11_demandOf_23 ?_
  have hPc : va_P D vwCl (wF []) s.heap := hP.sub [] rfl
  refine c_Rl (va_runS (As := [.long (((F11_set1 x1 15) - (x1 (17 + p1))) * (F11_set1 x1 16)), .long (10 : Int64)]) (rest := []) ⟨hx, hb, hml, hown, hts⟩ (m11_div l D cI cL cP (((F11_set1 x1 15) - (x1 (17 + p1))) * (F11_set1 x1 16)) (10 : Int64) (by decide) s.heap) (va_cwS 2 hts gX11_demandOf_X11_div rfl rfl rfl (by decide +kernel) ⟨Nat.le_of_ble_eq_true rfl, Nat.le_of_ble_eq_true rfl⟩) (preR_S hQ hPc) rfl rfl hl.1 rfl (lv_room (Nat.le_of_ble_eq_true rfl)) dX11_demandOf_26 ⟨Nat.le_of_ble_eq_true rfl, Nat.le_of_ble_eq_true rfl⟩) hS (fun locs hS => ?_)
  refine lv_lstore_n (lv' := [(2, .long (F11_div (((F11_set1 x1 15) - (x1 (17 + p1))) * (F11_set1 x1 16)) (10 : Int64))), (0, .ref b0), (1, .int (nI p1))]) hx hb dX11_demandOf_29 rfl hl (by decide) rfl (fun ls hl => ?_)
  refine lv_lload_n hx hb dX11_demandOf_30 rfl (lv_at hl 0 rfl) ?_
  refine lv_lconst (v := (0 : Int64)) hx hb dX11_demandOf_31 rfl ?_
  refine w_diaL (rest := []) (K := (0 : Int64) ≤ (F11_div (((F11_set1 x1 15) - (x1 (17 + p1))) * (F11_set1 x1 16)) (10 : Int64))) 41 (F11_div (((F11_set1 x1 15) - (x1 (17 + p1))) * (F11_set1 x1 16)) (10 : Int64)) (0 : Int64) (fun kt kf => ?_) ?_
  · refine w_lge (tgt := 40) hx hb dX11_demandOf_32 dX11_demandOf_33 (by decide) (fun c1 => ?_) (fun c1 => ?_)
    · have c1 : (0 : Int64) ≤ (F11_div (((F11_set1 x1 15) - (x1 (17 + p1))) * (F11_set1 x1 16)) (10 : Int64)) := c1
      refine lv_lload_n hx hb dX11_demandOf_40 rfl (lv_at hl 0 rfl) ?_
      exact kt c1
    · have c1 : ¬ ((0 : Int64) ≤ (F11_div (((F11_set1 x1 15) - (x1 (17 + p1))) * (F11_set1 x1 16)) (10 : Int64))) := c1
      refine lv_lconst (v := (0 : Int64)) hx hb dX11_demandOf_36 rfl ?_
      refine lv_goto (tgt := 41) hx hb dX11_demandOf_37 (by decide) ?_
      exact kf c1
  exact W.lret (v := (if (0 : Int64) ≤ (F11_div (((F11_set1 x1 15) - (x1 (17 + p1))) * (F11_set1 x1 16)) (10 : Int64)) then (F11_div (((F11_set1 x1 15) - (x1 (17 + p1))) * (F11_set1 x1 16)) (10 : Int64)) else (0 : Int64))) hx hb hr (fun t ht hW => ⟨⟨(if (0 : Int64) ≤ (F11_div (((F11_set1 x1 15) - (x1 (17 + p1))) * (F11_set1 x1 16)) (10 : Int64)) then (F11_div (((F11_set1 x1 15) - (x1 (17 + p1))) * (F11_set1 x1 16)) (10 : Int64)) else (0 : Int64)), (), rfl, ((rfl).symm), ht⟩, hS.F ht⟩) hS.2.2 dX11_demandOf_41
def F11_demand (x1 : (Nat → Int64)) (p1 : Int32) : Int32 := (if (F11_isHour p1) = true then ((F11_demandOf x1 (p1.toNatClampNeg)).toInt32) else (-9999 : Int32))
set_option maxHeartbeats 4000000 in
set_option maxRecDepth 100000 in
theorem m11_demand (l : Launch) (D : va_G) (cI cL cP : ClassId) (b0 : Nat) (b1 : Nat) (b2 : Nat) (x0 : MoN) (x1 : (Nat → Int64)) (p1 : Int32) (H0 : Heap) : Met l yX11_demand wsX11_demand ({ frames := 2, cells := 0, slots := 0, locals := 48 }) (va_Pc [.ref b0, .int p1] (pR D cI cL cP H0 (wF [gN b0 b2 b1 x0, gR cL b2 x1]))) (va_Qi (fun (r : Int32) (_ : Unit) => r = F11_demand x1 p1) (qE H0) nF) 0 0 nF := by
  refine Met.ofW (cc := cX11_demand) (maxL := 2) (ret := (some .int)) (by decide) rfl ?_
  intro p e s m args below meth c s₁ B hml hv
  obtain ⟨rfl, rfl, hP, hQ⟩ := hv
  have hx := B.exec
  have hb := B.bytes
  have hr := B.returns
  have hts := atoms_spec (ws := wsX11_demand) B.pre
  have hown : s.vm.findClass RX11 = some m.cls := findClass_of_methodNamed B.named
  have hlocks := B.notSynchronized
  have hS : va_S nF s.heap s.heap [] := va_S.rf
  have hl := lv_entry ([.ref b0, .int p1]) (n := 2) (Nat.le_of_ble_eq_true rfl)
  rw [lg_entry_eq]
  generalize (lg_sl ([.ref b0, .int p1]) ++ List.replicate (2 - (lg_sl ([.ref b0, .int p1])).length) Slot.unset).toArray = ls at hl ⊢
  have hl : lv_has ls 2 [(0, .ref b0), (1, .int p1)] := hl
  have hinX11 : ∀ w ∈ wsX110, w ∈ wsX11_demand := fun _ h => List.mem_cons_of_mem _ (List.mem_append_right _ h)
  refine lv_iload_n hx hb dX11_demand_0 rfl (lv_at hl 1 rfl) ?_
  have hPc : va_P D vwCl (wF []) s.heap := hP.sub [] rfl
  refine c_Ri (va_runS (As := [.int p1]) (rest := []) ⟨hx, hb, hml, hown, hts⟩ (m11_isHour l D cI cL cP p1 s.heap) (va_cwS 1 hts gX11_demand_X11_isHour rfl rfl rfl (by decide +kernel) ⟨Nat.le_of_ble_eq_true rfl, Nat.le_of_ble_eq_true rfl⟩) (preR_S hQ hPc) rfl rfl hl.1 rfl (lv_room (Nat.le_of_ble_eq_true rfl)) dX11_demand_1 ⟨Nat.le_of_ble_eq_true rfl, Nat.le_of_ble_eq_true rfl⟩) hS (fun locs hS => ?_)
  refine lv_if_eq (tgt := 16) hx hb dX11_demand_4 (by decide) (fun c1 => ?_) (fun c1 => ?_)
  · have c1 : ¬ ((F11_isHour p1) = true) := bI_0.mp c1
    refine lv_sipush (v := (-9999 : Int32)) hx hb dX11_demand_16 (by decide) ?_
    exact W.iret (v := (-9999 : Int32)) hx hb hr (fun t ht hW => ⟨⟨(-9999 : Int32), (), rfl, ((Eq.trans (if_neg c1) (rfl)).symm), ht⟩, hS.F ht⟩) hS.2.2 dX11_demand_19
  · have c1 : (F11_isHour p1) = true := bI_1.mp c1
    refine lv_aload_n hx hb dX11_demand_7 rfl (lv_at hl 0 rfl) ?_
    refine lv_iload_n hx hb dX11_demand_8 rfl (lv_at hl 1 rfl) ?_
    refine w_topn (p1.toNatClampNeg) (w_hrN c1) ?_
    have hPc : va_P D vwCl (wF [gN b0 b2 b1 x0, gR cL b2 x1]) s.heap := hP.sub [0, 1] rfl
    refine c_Rl (va_runV (As := [.int (nI (p1.toNatClampNeg))]) (rest := []) ⟨hx, hb, hml, hown, hts⟩ (m11_demandOf l D cI cL cP b0 b1 b2 x0 x1 (p1.toNatClampNeg) (w_hrL c1) s.heap) (cwV 1 hts gX11_demand_X11_demandOf rfl rfl rfl (by decide +kernel) ⟨Nat.le_of_ble_eq_true rfl, Nat.le_of_ble_eq_true rfl⟩) (preR_V (q := (RX11, TX11, 10)) (q0 := 0) hQ hPc rfl rfl) rfl rfl hl.1 rfl (lv_room (Nat.le_of_ble_eq_true rfl)) dX11_demand_9 ⟨Nat.le_of_ble_eq_true rfl, Nat.le_of_ble_eq_true rfl⟩) hS (fun locs hS => ?_)
    refine lv_l2i hx hb dX11_demand_12 rfl ?_
    refine lv_goto (tgt := 19) hx hb dX11_demand_13 (by decide) ?_
    exact W.iret (v := (F11_demandOf x1 (p1.toNatClampNeg)).toInt32) hx hb hr (fun t ht hW => ⟨⟨(F11_demandOf x1 (p1.toNatClampNeg)).toInt32, (), rfl, ((Eq.trans (if_pos c1) (rfl)).symm), ht⟩, hS.F ht⟩) hS.2.2 dX11_demand_19
def L11_pointAt_2 (x1 : (Nat → Int64)) (p1 : Int32) : Nat → Nat → Int32
  | 0, _ => default
  | fu + 1, i => (if (x1 68) ≤ (nI i).toInt64 then (-1 : Int32) else (if (x1 (69 + (2 * i))) = p1.toInt64 then (nI i) else ((L11_pointAt_2 x1 p1 fu) (i + 1))))
def F11_pointAt (x1 : (Nat → Int64)) (p1 : Int32) : Int32 := L11_pointAt_2 x1 p1 7 0
set_option maxHeartbeats 4000000 in
set_option maxRecDepth 100000 in
theorem m11_pointAt (l : Launch) (D : va_G) (cI cL cP : ClassId) (b0 : Nat) (b1 : Nat) (b2 : Nat) (x0 : MoN) (x1 : (Nat → Int64)) (p1 : Int32) (hc : (x1 68).toInt ≤ 6) (H0 : Heap) : Met l yX11_pointAt wsX11_pointAt ({ frames := 0, cells := 0, slots := 0, locals := 0 }) (va_Pc [.ref b0, .int p1] (pR D cI cL cP H0 (wF [gN b0 b2 b1 x0, gR cL b2 x1]))) (va_Qi (fun (r : Int32) (_ : Unit) => r = F11_pointAt x1 p1) (qE H0) nF) 0 0 nF := by
  refine Met.ofW (cc := cX11_pointAt) (maxL := 3) (ret := (some .int)) (by decide) rfl ?_
  intro p e s m args below meth c s₁ B hml hv
  obtain ⟨rfl, rfl, hP, hQ⟩ := hv
  have hx := B.exec
  have hb := B.bytes
  have hr := B.returns
  have hts := atoms_spec (ws := wsX11_pointAt) B.pre
  have hown : s.vm.findClass RX11 = some m.cls := findClass_of_methodNamed B.named
  have hlocks := B.notSynchronized
  have hS : va_S nF s.heap s.heap [] := va_S.rf
  have hl := lv_entry ([.ref b0, .int p1]) (n := 3) (Nat.le_of_ble_eq_true rfl)
  rw [lg_entry_eq]
  generalize (lg_sl ([.ref b0, .int p1]) ++ List.replicate (3 - (lg_sl ([.ref b0, .int p1])).length) Slot.unset).toArray = ls at hl ⊢
  have hl : lv_has ls 3 [(0, .ref b0), (1, .int p1)] := hl
  have hinX11 : ∀ w ∈ wsX110, w ∈ wsX11_pointAt := fun _ h => List.mem_cons_of_mem _ (List.mem_append_right _ h)
  refine lv_iconst (v := (0 : Int32)) hx hb dX11_pointAt_0 (by decide) ?_
  refine lv_istore_n (lv' := [(2, .int (0 : Int32)), (0, .ref b0), (1, .int p1)]) hx hb dX11_pointAt_1 rfl hl (by decide) rfl (fun ls hl => ?_)
  have loop2 : ∀ (fu : Nat) (i : Nat) (hi : i ≤ 6) (hm : 6 - i < fu) (hF2 : L11_pointAt_2 x1 p1 fu i = F11_pointAt x1 p1), ∀ (locs : List Loc) (_ : va_S nF s.heap s.heap locs) (ls : Array Slot) (_ : lv_has ls 3 [(2, .int (nI i)), (0, .ref b0), (1, .int p1)]), W p l e (headSpec wsX11_pointAt ({ frames := 0, cells := 0, slots := 0, locals := 0 })).room s m #[.ref b0, .int p1] below meth c s.heap locs 0 0 (MQ below (va_Qi (fun (r : Int32) (_ : Unit) => r = F11_pointAt x1 p1) (qE s.heap) nF) #[.ref b0, .int p1] s 0 0 nF) (F0 m 2 ls []) := by
    intro fu
    induction fu with
    | zero => intro i hi hm; exact absurd hm (by omega)
    | succ fu ih =>
      intro i hi hm hF2 locs hS ls hl
      refine lv_iload_n hx hb dX11_pointAt_2 rfl (lv_at hl 0 rfl) ?_
      refine lv_i2l hx hb dX11_pointAt_3 rfl ?_
      refine lv_aload_n hx hb dX11_pointAt_4 rfl (lv_at hl 1 rfl) ?_
      refine va_get (D := D) (ci := 11) (v := .ref b2) (C := RX11) (T := TX11) (N := 10) hx hb hts hinX11 hown hQ.1 hP 0 rfl rfl 0 (by decide) (hts (.fieldLink RX11 7 "HeatPumpPlantModel" "row" "[J") (List.mem_of_getElem? (i := 1) rfl)) (fun _ h9 => h9) rfl dX11_pointAt_5 ?_
      refine lv_bipush (v := (68 : Int32)) hx hb dX11_pointAt_8 (by decide) ?_
      refine w_lald (f := x1) (j := 68) hx hb hQ.1 hP 1 1 rfl rfl (rfl : (68 : Int32) = nI 68) (by omega) (by decide) dX11_pointAt_10 ?_
      refine w_lge (tgt := 40) hx hb dX11_pointAt_11 dX11_pointAt_12 (by decide) (fun c1 => ?_) (fun c1 => ?_)
      · have c1 : (x1 68) ≤ (nI i).toInt64 := c1
        refine lv_iconst (v := (-1 : Int32)) hx hb dX11_pointAt_40 (by decide) ?_
        exact W.iret (v := (-1 : Int32)) hx hb hr (fun t ht hW => ⟨⟨(-1 : Int32), (), rfl, ((hF2.symm.trans (Eq.trans (if_pos c1) (rfl))).symm), ht⟩, hS.F ht⟩) hS.2.2 dX11_pointAt_41
      · have c1 : ¬ ((x1 68) ≤ (nI i).toInt64) := c1
        have hi6 : i < 6 := w_ptlt c1 hc (by omega)
        refine lv_aload_n hx hb dX11_pointAt_15 rfl (lv_at hl 1 rfl) ?_
        refine va_get (D := D) (ci := 11) (v := .ref b2) (C := RX11) (T := TX11) (N := 10) hx hb hts hinX11 hown hQ.1 hP 0 rfl rfl 0 (by decide) (hts (.fieldLink RX11 7 "HeatPumpPlantModel" "row" "[J") (List.mem_of_getElem? (i := 1) rfl)) (fun _ h9 => h9) rfl dX11_pointAt_16 ?_
        refine lv_bipush (v := (69 : Int32)) hx hb dX11_pointAt_19 (by decide) ?_
        refine lv_iconst (v := (2 : Int32)) hx hb dX11_pointAt_21 (by decide) ?_
        refine lv_iload_n hx hb dX11_pointAt_22 rfl (lv_at hl 0 rfl) ?_
        refine lv_imul hx hb dX11_pointAt_23 ?_
        refine lv_iadd hx hb dX11_pointAt_24 ?_
        refine w_lald (f := x1) (j := (69 + (2 * i))) hx hb hQ.1 hP 1 1 rfl rfl ((congr (congrArg HAdd.hAdd (show (69 : Int32) = nI 69 from (rfl : (69 : Int32) = nI 69))) (show ((2 : Int32) * (nI i)) = nI (2 * i) from ((congr (congrArg HMul.hMul (show (2 : Int32) = nI 2 from (rfl : (2 : Int32) = nI 2))) (show (nI i) = nI i from rfl)).trans (pk_mul 2 i)))).trans (nI_add 69 (2 * i))) (by omega) (by decide) dX11_pointAt_25 ?_
        refine lv_iload_n hx hb dX11_pointAt_26 rfl (lv_at hl 2 rfl) ?_
        refine lv_i2l hx hb dX11_pointAt_27 rfl ?_
        refine w_lne (tgt := 34) hx hb dX11_pointAt_28 dX11_pointAt_29 (by decide) (fun c2 => ?_) (fun c2 => ?_)
        · have c2 : ¬ ((x1 (69 + (2 * i))) = p1.toInt64) := c2
          refine lv_iinc (v := (nI (i + 1))) (lv' := [(2, .int (nI (i + 1))), (0, .ref b0), (1, .int p1)]) hx hb dX11_pointAt_34 hl (k := 0) rfl (nI_add i 1) (by decide) rfl (fun ls hl => ?_)
          refine lv_goto (tgt := 2) hx hb dX11_pointAt_37 (by decide) ?_
          exact ih (i + 1) (by omega) (by omega) (((Eq.trans (if_neg c1) (Eq.trans (if_neg c2) (rfl))).symm.trans hF2)) locs hS ls (lv_sub hl [0, 1, 2] rfl)
        · have c2 : (x1 (69 + (2 * i))) = p1.toInt64 := c2
          refine lv_iload_n hx hb dX11_pointAt_32 rfl (lv_at hl 0 rfl) ?_
          exact W.iret (v := (nI i)) hx hb hr (fun t ht hW => ⟨⟨(nI i), (), rfl, ((hF2.symm.trans (Eq.trans (if_neg c1) (Eq.trans (if_pos c2) (rfl)))).symm), ht⟩, hS.F ht⟩) hS.2.2 dX11_pointAt_33
  exact loop2 7 0 (by omega) (by omega) ((rfl).symm) [] hS ls (lv_sub hl [0, 1, 2] rfl)
