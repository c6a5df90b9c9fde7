/-! the class's tables of settings -/
def sFI (j : Nat) : Int32 := ([10, 5, 3, 20, 550, 30, 280, 6000, 100, 50, 45, 6, 3000, 2, 20, 200, 150] : List Int32).getD j 0
def sLE (j : Nat) : Int32 := ([0, 0, 1, 1, 300, 0, 150, 500, 0, -50, 1, 1, 0, 0, 0, 100, 1] : List Int32).getD j 0
def sMO (j : Nat) : Int32 := ([60, 60, 10, 100, 700, 150, 500, 20000, 200, 100, 600, 20, 20000, 50, 100, 300, 1000] : List Int32).getD j 0
def zS (A : Nat → Prop) (U : State) (H : Heap) : Prop := ∃ tL tM tF : Nat, va_Z RX7 "LEAST" "[I" (.ref tL) A U H ∧ va_Z RX7 "MOST" "[I" (.ref tM) A U H ∧ va_Z RX7 "FIRST" "[I" (.ref tF) A U H ∧ va_T .int tL 17 (fun j => .int (sLE j)) A U H ∧ va_T .int tM 17 (fun j => .int (sMO j)) A U H ∧ va_T .int tF 17 (fun j => .int (sFI j)) A U H ∧ va_AO "HeatPumpPlant$Plant" U
theorem zS.moved {A : Nat → Prop} {u U : State} {H : Heap} (hvm : u.vm.Alike U.vm) (h : zS A u H) : zS A U H := by
  obtain ⟨a, b, c, h1, h2, h3, h4, h5, h6, h7⟩ := h
  exact ⟨a, b, c, va_Z.moved hvm h1, va_Z.moved hvm h2, va_Z.moved hvm h3, va_T.moved hvm h4, va_T.moved hvm h5, va_T.moved hvm h6, va_AO.moved hvm h7⟩
theorem zS.kept {A : Nat → Prop} {U : State} {H H1 : Heap} (h : zS A U H) (hq : ∀ a : Nat, a < H.size → ¬ A a → H1[a]? = H[a]?) : zS A U H1 := by
  obtain ⟨a, b, c, h1, h2, h3, h4, h5, h6, h7⟩ := h
  exact ⟨a, b, c, h1.kept hq, h2.kept hq, h3.kept hq, h4.kept hq, h5.kept hq, h6.kept hq, h7⟩
theorem zS.narrow {A B : Nat → Prop} {U : State} {H : Heap} (h : zS A U H) (hAB : ∀ q, B q → A q) : zS B U H := by
  obtain ⟨a, b, c, h1, h2, h3, h4, h5, h6, h7⟩ := h
  exact ⟨a, b, c, h1.narrow hAB, h2.narrow hAB, h3.narrow hAB, h4.narrow hAB, h5.narrow hAB, h6.narrow hAB, h7⟩
def pRz (D : va_G) (cI cL cP : ClassId) (H0 : Heap) (ws : va_W) : State → Prop := fun U => pR D cI cL cP H0 ws U ∧ zS nF U U.heap
def pMz (D : va_G) (cI cL cP : ClassId) (sz : Nat) (ws : va_W) : State → Prop := fun U => pM D cI cL cP sz ws U ∧ zS nF U U.heap
theorem pRz_blind {D : va_G} {cI cL cP : ClassId} {H0 : Heap} {ws : va_W} {av : List Value} : FrameBlind (va_Pc av (pRz D cI cL cP H0 ws)) := fun a u g mk q => ⟨q.1, (pR_blind (av := av) a u g mk ⟨q.1, q.2.1⟩).2, zS.moved (u := u) (U := u.calling g mk a) (Vm.Alike.refl u.vm) q.2.2⟩
theorem pMz_blind {D : va_G} {cI cL cP : ClassId} {sz : Nat} {ws : va_W} {av : List Value} : FrameBlind (va_Pc av (pMz D cI cL cP sz ws)) := fun a u g mk q => ⟨q.1, (pM_blind (av := av) a u g mk ⟨q.1, q.2.1⟩).2, zS.moved (u := u) (U := u.calling g mk a) (Vm.Alike.refl u.vm) q.2.2⟩
section WZ
variable {s : State} {H : Heap} {b : Addr} {As : List Value} {D : va_G} {cI cL cP : ClassId} {A0 : Nat → Prop} {wsc : va_W}
theorem preR_Sz (hQ : kQ D cI cL cP s) (hP : va_P D vwCl wsc H) (hz : zS nF s H) : PreS s H (va_Pc As (pRz D cI cL cP H wsc)) As := ⟨pRz_blind, fun U hU hW => ⟨rfl, ⟨hU, by rw [hU]; exact hP, hQ.warm hW⟩, by rw [hU]; exact hz.moved hW.alike⟩⟩
theorem preM_Vz (hQ : kQ D cI cL cP s) (hP : va_P D vwCl wsc H) (hD : va_D A0 wsc) (hz : zS nF s H) {q : vw_C} {fs : List Value} {q0 ci : Nat} (hc : vwCl[ci]? = some q) (he : wsc[q0]? = some (b, .inr (ci, fs))) : PreV s H q.1 b (va_Pc (.ref b :: As) (pMz D cI cL cP H.size wsc)) As := ⟨pMz_blind, va_recv hQ.1 hP hc he, fun U hU hW => ⟨rfl, ⟨by rw [hU], by rw [hU]; exact hP, hQ.warm hW, hD.weaken (fun _ _ _ _ => trivial)⟩, by rw [hU]; exact hz.moved hW.alike⟩⟩
end WZ
def F7_allows (p1 : Int32) (p2 : Int32) : Bool := (if p1 < (0 : Int32) then false else (if (17 : Int32) ≤ p1 then false else (if (17 : Int32) ≤ p1 then false else (if p2 < (sLE p1.toNatClampNeg) then false else (if (sMO p1.toNatClampNeg) < p2 then false else true)))))
set_option maxHeartbeats 4000000 in
set_option maxRecDepth 100000 in
theorem m7_allows (l : Launch) (D : va_G) (cI cL cP : ClassId) (p1 : Int32) (p2 : Int32) (H0 : Heap) : Met l yX7_allows wsX7_allows ({ frames := 0, cells := 0, slots := 0, locals := 0 }) (va_Pc [.int p1, .int p2] (pRz D cI cL cP H0 (wF []))) (va_Qi (fun (r : Int32) (_ : Unit) => r = bI (F7_allows p1 p2)) (qE H0) nF) 0 0 nF := by
  refine Met.ofW (cc := cX7_allows) (maxL := 2) (ret := (some .boolean)) (by decide) rfl ?_
  intro p e s m args below meth c s₁ B hml hv
  obtain ⟨hv1, hv2, hzS⟩ := hv
  have hv := And.intro hv1 hv2
  clear hv1 hv2
  have hzS9 := hzS
  obtain ⟨tL, tM, tF, hzL, hzM, hzF, hTL, hTM, hTF, hAO⟩ := hzS
  obtain ⟨rfl, rfl, hP, hQ⟩ := hv
  have hx := B.exec
  have hb := B.bytes
  have hr := B.returns
  have hts := atoms_spec (ws := wsX7_allows) B.pre
  have hown : s.vm.findClass RX7 = some m.cls := findClass_of_methodNamed B.named
  have hlocks := B.notSynchronized
  have hS : va_S nF s.heap s.heap [] := va_S.rf
  have hl := lv_entry ([.int p1, .int p2]) (n := 2) (Nat.le_of_ble_eq_true rfl)
  rw [lg_entry_eq]
  generalize (lg_sl ([.int p1, .int p2]) ++ List.replicate (2 - (lg_sl ([.int p1, .int p2])).length) Slot.unset).toArray = ls at hl ⊢
  have hl : lv_has ls 2 [(0, .int p1), (1, .int p2)] := hl
  refine lv_iload_n hx hb dX7_allows_0 rfl (lv_at hl 0 rfl) ?_
  refine lv_if_lt (tgt := 42) hx hb dX7_allows_1 (by decide) (fun c1 => ?_) (fun c1 => ?_)
  · have c1 : p1 < (0 : Int32) := c1
    refine lv_iconst (v := (0 : Int32)) hx hb dX7_allows_42 (by decide) ?_
    exact W.zret (v := (0 : Int32)) (ty := .boolean) hx hb hr rfl (fun t ht hW => ⟨⟨(0 : Int32), (), rfl, ((congrArg bI (show F7_allows p1 p2 = false from Eq.trans (if_pos c1) (rfl))).symm), ht⟩, hS.F ht⟩) hS.2.2 dX7_allows_43
  · have c1 : ¬ (p1 < (0 : Int32)) := c1
    refine lv_iload_n hx hb dX7_allows_4 rfl (lv_at hl 0 rfl) ?_
    refine va_gets (C := RX7) hx hb hzL hS hown (hts (.fieldLink RX7 16 "HeatPumpPlant$Settings" "LEAST" "[I") (List.mem_of_getElem? (i := 1) rfl)) (fun _ h9 => h9) dX7_allows_5 ?_
    refine va_tlen (v := (17 : Int32)) hx hb hTL hS rfl dX7_allows_8 ?_
    refine lv_icmp_ge (tgt := 42) hx hb dX7_allows_9 (by decide) (fun c2 => ?_) (fun c2 => ?_)
    · have c2 : (17 : Int32) ≤ p1 := c2
      refine lv_iconst (v := (0 : Int32)) hx hb dX7_allows_42 (by decide) ?_
      exact W.zret (v := (0 : Int32)) (ty := .boolean) hx hb hr rfl (fun t ht hW => ⟨⟨(0 : Int32), (), rfl, ((congrArg bI (show F7_allows p1 p2 = false from Eq.trans (if_neg c1) (Eq.trans (if_pos c2) (rfl)))).symm), ht⟩, hS.F ht⟩) hS.2.2 dX7_allows_43
    · have c2 : ¬ ((17 : Int32) ≤ p1) := c2
      refine lv_iload_n hx hb dX7_allows_12 rfl (lv_at hl 0 rfl) ?_
      refine va_gets (C := RX7) hx hb hzM hS hown (hts (.fieldLink RX7 19 "HeatPumpPlant$Settings" "MOST" "[I") (List.mem_of_getElem? (i := 2) rfl)) (fun _ h9 => h9) dX7_allows_13 ?_
      refine va_tlen (v := (17 : Int32)) hx hb hTM hS rfl dX7_allows_16 ?_
      refine lv_icmp_ge (tgt := 42) hx hb dX7_allows_17 (by decide) (fun c3 => ?_) (fun c3 => ?_)
      · have c3 : (17 : Int32) ≤ p1 := c3
        refine lv_iconst (v := (0 : Int32)) hx hb dX7_allows_42 (by decide) ?_
        exact W.zret (v := (0 : Int32)) (ty := .boolean) hx hb hr rfl (fun t ht hW => ⟨⟨(0 : Int32), (), rfl, ((congrArg bI (show F7_allows p1 p2 = false from Eq.trans (if_neg c1) (Eq.trans (if_neg c2) (Eq.trans (if_pos c3) (rfl))))).symm), ht⟩, hS.F ht⟩) hS.2.2 dX7_allows_43
      · have c3 : ¬ ((17 : Int32) ≤ p1) := c3
        refine lv_iload_n hx hb dX7_allows_20 rfl (lv_at hl 1 rfl) ?_
        refine va_gets (C := RX7) hx hb hzL hS hown (hts (.fieldLink RX7 16 "HeatPumpPlant$Settings" "LEAST" "[I") (List.mem_of_getElem? (i := 1) rfl)) (fun _ h9 => h9) dX7_allows_21 ?_
        refine lv_iload_n hx hb dX7_allows_24 rfl (lv_at hl 0 rfl) ?_
        refine va_ti (v := .int (sLE p1.toNatClampNeg)) hx hb hTL hS (w_inx (by decide) c1 c2) rfl dX7_allows_25 ?_
        refine lv_icmp_lt (tgt := 42) hx hb dX7_allows_26 (by decide) (fun c4 => ?_) (fun c4 => ?_)
        · have c4 : p2 < (sLE p1.toNatClampNeg) := c4
          refine lv_iconst (v := (0 : Int32)) hx hb dX7_allows_42 (by decide) ?_
          exact W.zret (v := (0 : Int32)) (ty := .boolean) hx hb hr rfl (fun t ht hW => ⟨⟨(0 : Int32), (), rfl, ((congrArg bI (show F7_allows p1 p2 = false from Eq.trans (if_neg c1) (Eq.trans (if_neg c2) (Eq.trans (if_neg c3) (Eq.trans (if_pos c4) (rfl)))))).symm), ht⟩, hS.F ht⟩) hS.2.2 dX7_allows_43
        · have c4 : ¬ (p2 < (sLE p1.toNatClampNeg)) := c4
          refine lv_iload_n hx hb dX7_allows_29 rfl (lv_at hl 1 rfl) ?_
          refine va_gets (C := RX7) hx hb hzM hS hown (hts (.fieldLink RX7 19 "HeatPumpPlant$Settings" "MOST" "[I") (List.mem_of_getElem? (i := 2) rfl)) (fun _ h9 => h9) dX7_allows_30 ?_
          refine lv_iload_n hx hb dX7_allows_33 rfl (lv_at hl 0 rfl) ?_
          refine va_ti (v := .int (sMO p1.toNatClampNeg)) hx hb hTM hS (w_inx (by decide) c1 c3) rfl dX7_allows_34 ?_
          refine lv_icmp_gt (tgt := 42) hx hb dX7_allows_35 (by decide) (fun c5 => ?_) (fun c5 => ?_)
          · have c5 : (sMO p1.toNatClampNeg) < p2 := c5
            refine lv_iconst (v := (0 : Int32)) hx hb dX7_allows_42 (by decide) ?_
            exact W.zret (v := (0 : Int32)) (ty := .boolean) hx hb hr rfl (fun t ht hW => ⟨⟨(0 : Int32), (), rfl, ((congrArg bI (show F7_allows p1 p2 = false from Eq.trans (if_neg c1) (Eq.trans (if_neg c2) (Eq.trans (if_neg c3) (Eq.trans (if_neg c4) (Eq.trans (if_pos c5) (rfl))))))).symm), ht⟩, hS.F ht⟩) hS.2.2 dX7_allows_43
          · have c5 : ¬ ((sMO p1.toNatClampNeg) < p2) := c5
            refine lv_iconst (v := (1 : Int32)) hx hb dX7_allows_38 (by decide) ?_
            refine lv_goto (tgt := 43) hx hb dX7_allows_39 (by decide) ?_
            exact W.zret (v := (1 : Int32)) (ty := .boolean) hx hb hr rfl (fun t ht hW => ⟨⟨(1 : Int32), (), rfl, ((congrArg bI (show F7_allows p1 p2 = true from Eq.trans (if_neg c1) (Eq.trans (if_neg c2) (Eq.trans (if_neg c3) (Eq.trans (if_neg c4) (Eq.trans (if_neg c5) (rfl))))))).symm), ht⟩, hS.F ht⟩) hS.2.2 dX7_allows_43
def K10_set_2 (u : PlS) (o : Nat) (k : Nat) (h : Nat → PlS) (p1 : Int32) (p2 : Int32) (z2 : Int32 × ((Nat × Nat) × (Nat → PlS))) (z3 : SS) : Int32 × PlS × ((Nat × Nat) × (Nat → PlS)) := (z2.1, ((z3, (pW u), (pK u), (pB u), (pP u), (pA u), (pC u), (pT u)), ((z2.2.1.1, z2.2.1.2), z2.2.2)))
def K10_set_1 (u : PlS) (o : Nat) (k : Nat) (h : Nat → PlS) (p1 : Int32) (p2 : Int32) (z2 : Int32 × ((Nat × Nat) × (Nat → PlS))) : Int32 × PlS × ((Nat × Nat) × (Nat → PlS)) := (K10_set_2 u o k h p1 p2 z2 (F7_change (pS u) p1 p2))
def F10_set (u : PlS) (o : Nat) (k : Nat) (h : Nat → PlS) (p1 : Int32) (p2 : Int32) : Int32 × PlS × ((Nat × Nat) × (Nat → PlS)) := (if (F7_allows p1 p2) = true then (K10_set_1 u o k h p1 p2 (F4_record o k h u)) else ((-1 : Int32), (u, ((o, k), h))))
set_option maxHeartbeats 4000000 in
set_option maxRecDepth 100000 in
theorem m10_set (l : Launch) (D : va_G) (cI cL cP : ClassId) (b0 : Nat) (b1 : Nat) (b2 : Nat) (a3 : Nat → Nat) (b4 : Nat) (b5 : Nat) (ca : Nat → Nat → Nat) (u : PlS) (o : Nat) (k : Nat) (h : Nat → PlS) (p1 : Int32) (p2 : Int32) (ho : o < 4) (hk : k ≤ 4) (sz : Nat) : Met l yX10_set wsX10_set ({ frames := 4, cells := 0, slots := 0, locals := 86 }) (va_Pc [.ref b0, .int p1, .int p2] (pMz D cI cL cP sz (wF [gX b0 (a3 0) b1 b4 b2, gO (a3 0) (a3 1) (a3 3) (a3 7) (a3 10) (a3 12) (a3 14) (a3 16) (pT u), gS cI (a3 1) (a3 2) (pS u), gWe cI (a3 3) (a3 4) (a3 5) (a3 6) (pW u), gK cI (a3 7) (a3 8) (a3 9) (pK u), gB cL (a3 10) (a3 11) (pB u), gP cI (a3 12) (a3 13) (pP u), gA cI (a3 14) (a3 15) (pA u), gC (a3 16) (pC u), gH cP b4 b5 ca ((nI o), (nI k)), gQ cI cL (ca 0) (h 0), gQ cI cL (ca 1) (h 1), gQ cI cL (ca 2) (h 2), gQ cI cL (ca 3) (h 3)]))) (va_Qi (fun (r : Int32) (w : PlS × ((Nat × Nat) × (Nat → PlS))) => (r, w) = F10_set u o k h p1 p2) (qW D (va_A (wF [gX b0 (a3 0) b1 b4 b2, gO (a3 0) (a3 1) (a3 3) (a3 7) (a3 10) (a3 12) (a3 14) (a3 16) (pT u), gS cI (a3 1) (a3 2) (pS u), gWe cI (a3 3) (a3 4) (a3 5) (a3 6) (pW u), gK cI (a3 7) (a3 8) (a3 9) (pK u), gB cL (a3 10) (a3 11) (pB u), gP cI (a3 12) (a3 13) (pP u), gA cI (a3 14) (a3 15) (pA u), gC (a3 16) (pC u), gH cP b4 b5 ca ((nI o), (nI k)), gQ cI cL (ca 0) (h 0), gQ cI cL (ca 1) (h 1), gQ cI cL (ca 2) (h 2), gQ cI cL (ca 3) (h 3)]) sz) (fun w : PlS × ((Nat × Nat) × (Nat → PlS)) => (wF [gX b0 (a3 0) b1 b4 b2, gO (a3 0) (a3 1) (a3 3) (a3 7) (a3 10) (a3 12) (a3 14) (a3 16) (pT w.1), gS cI (a3 1) (a3 2) (pS w.1), gWe cI (a3 3) (a3 4) (a3 5) (a3 6) (pW w.1), gK cI (a3 7) (a3 8) (a3 9) (pK w.1), gB cL (a3 10) (a3 11) (pB w.1), gP cI (a3 12) (a3 13) (pP w.1), gA cI (a3 14) (a3 15) (pA w.1), gC (a3 16) (pC w.1), gH cP b4 b5 ca ((nI w.2.1.1), (nI w.2.1.2)), gQ cI cL (ca 0) (w.2.2 0), gQ cI cL (ca 1) (w.2.2 1), gQ cI cL (ca 2) (w.2.2 2), gQ cI cL (ca 3) (w.2.2 3)]))) (va_A (wF [gX b0 (a3 0) b1 b4 b2, gO (a3 0) (a3 1) (a3 3) (a3 7) (a3 10) (a3 12) (a3 14) (a3 16) (pT u), gS cI (a3 1) (a3 2) (pS u), gWe cI (a3 3) (a3 4) (a3 5) (a3 6) (pW u), gK cI (a3 7) (a3 8) (a3 9) (pK u), gB cL (a3 10) (a3 11) (pB u), gP cI (a3 12) (a3 13) (pP u), gA cI (a3 14) (a3 15) (pA u), gC (a3 16) (pC u), gH cP b4 b5 ca ((nI o), (nI k)), gQ cI cL (ca 0) (h 0), gQ cI cL (ca 1) (h 1), gQ cI cL (ca 2) (h 2), gQ cI cL (ca 3) (h 3)]) sz)) 0 0 (va_A (wF [gX b0 (a3 0) b1 b4 b2, gO (a3 0) (a3 1) (a3 3) (a3 7) (a3 10) (a3 12) (a3 14) (a3 16) (pT u), gS cI (a3 1) (a3 2) (pS u), gWe cI (a3 3) (a3 4) (a3 5) (a3 6) (pW u), gK cI (a3 7) (a3 8) (a3 9) (pK u), gB cL (a3 10) (a3 11) (pB u), gP cI (a3 12) (a3 13) (pP u), gA cI (a3 14) (a3 15) (pA u), gC (a3 16) (pC u), gH cP b4 b5 ca ((nI o), (nI k)), gQ cI cL (ca 0) (h 0), gQ cI cL (ca 1) (h 1), gQ cI cL (ca 2) (h 2), gQ cI cL (ca 3) (h 3)]) sz) := by
  refine Met.ofW (cc := cX10_set) (maxL := 4) (ret := (some .int)) (by decide) rfl ?_
  intro p e s m args below meth c s₁ B hml hv
  obtain ⟨hv1, hv2, hzS⟩ := hv
  have hv := And.intro hv1 hv2
  clear hv1 hv2
  have hzS9 := hzS
  obtain ⟨tL, tM, tF, hzL, hzM, hzF, hTL, hTM, hTF, hAO⟩ := hzS
  obtain ⟨rfl, hsz, hP, hQ, hD0⟩ := hv
  have hx := B.exec
  have hb := B.bytes
  have hr := B.returns
  have hts := atoms_spec (ws := wsX10_set) B.pre
  have hown : s.vm.findClass RX10 = some m.cls := findClass_of_methodNamed B.named
  have hlocks := B.notSynchronized
  subst hsz
  have hD := hD0.self (sz := s.heap.size)
  generalize hAe : va_A (wF [gX b0 (a3 0) b1 b4 b2, gO (a3 0) (a3 1) (a3 3) (a3 7) (a3 10) (a3 12) (a3 14) (a3 16) (pT u), gS cI (a3 1) (a3 2) (pS u), gWe cI (a3 3) (a3 4) (a3 5) (a3 6) (pW u), gK cI (a3 7) (a3 8) (a3 9) (pK u), gB cL (a3 10) (a3 11) (pB u), gP cI (a3 12) (a3 13) (pP u), gA cI (a3 14) (a3 15) (pA u), gC (a3 16) (pC u), gH cP b4 b5 ca ((nI o), (nI k)), gQ cI cL (ca 0) (h 0), gQ cI cL (ca 1) (h 1), gQ cI cL (ca 2) (h 2), gQ cI cL (ca 3) (h 3)]) s.heap.size = A at hD ⊢
  have hA : ∀ q : Nat, s.heap.size ≤ q → A q := fun q h => by rw [← hAe]; exact Or.inr h
  have hS : va_S A s.heap s.heap [] := va_S.rf
  have hP : va_P D vwCl (wF [gX b0 (a3 0) b1 b4 b2, gO (a3 0) (a3 1) (a3 3) (a3 7) (a3 10) (a3 12) (a3 14) (a3 16) (pT u), gS cI (a3 1) (a3 2) (pS u), gWe cI (a3 3) (a3 4) (a3 5) (a3 6) (pW u), gK cI (a3 7) (a3 8) (a3 9) (pK u), gB cL (a3 10) (a3 11) (pB u), gP cI (a3 12) (a3 13) (pP u), gA cI (a3 14) (a3 15) (pA u), gC (a3 16) (pC u), gH cP b4 b5 ca ((nI o), (nI k)), gQ cI cL (ca 0) (h 0), gQ cI cL (ca 1) (h 1), gQ cI cL (ca 2) (h 2), gQ cI cL (ca 3) (h 3)]) s.heap := hP
  have hl := lv_entry ([.ref b0, .int p1, .int p2]) (n := 4) (Nat.le_of_ble_eq_true rfl)
  rw [lg_entry_eq]
  generalize (lg_sl ([.ref b0, .int p1, .int p2]) ++ List.replicate (4 - (lg_sl ([.ref b0, .int p1, .int p2])).length) Slot.unset).toArray = ls at hl ⊢
  have hl : lv_has ls 4 [(0, .ref b0), (1, .int p1), (2, .int p2)] := hl
  have hinX0 : ∀ w ∈ wsX00, w ∈ wsX10_set := fun _ h => List.mem_cons_of_mem _ (List.mem_append_right _ h)
  have hinX1 : ∀ w ∈ wsX10, w ∈ wsX10_set := fun _ h => List.mem_cons_of_mem _ (List.mem_append_left _ (List.mem_append_left _ (List.mem_append_right _ h)))
  have hinX3 : ∀ w ∈ wsX30, w ∈ wsX10_set := fun _ h => List.mem_cons_of_mem _ (List.mem_append_left _ (List.mem_append_left _ (List.mem_append_left _ (List.mem_append_right _ h))))
  have hinX4 : ∀ w ∈ wsX40, w ∈ wsX10_set := fun _ h => List.mem_cons_of_mem _ (List.mem_append_left _ (List.mem_append_left _ (List.mem_append_left _ (List.mem_append_left _ (List.mem_append_left _ (List.mem_append_left _ (List.mem_append_right _ h)))))))
  have hinX5 : ∀ w ∈ wsX50, w ∈ wsX10_set := fun _ h => List.mem_cons_of_mem _ (List.mem_append_left _ (List.mem_append_left _ (List.mem_append_left _ (List.mem_append_left _ (List.mem_append_left _ (List.mem_append_left _ (List.mem_append_left _ (List.mem_append_right _ h))))))))
  have hinX6 : ∀ w ∈ wsX60, w ∈ wsX10_set := fun _ h => List.mem_cons_of_mem _ (List.mem_append_left _ (List.mem_append_right _ h))
  have hinX7 : ∀ w ∈ wsX70, w ∈ wsX10_set := fun _ h => List.mem_cons_of_mem _ (List.mem_append_left _ (List.mem_append_left _ (List.mem_append_left _ (List.mem_append_left _ (List.mem_append_left _ (List.mem_append_right _ h))))))
  have hinX8 : ∀ w ∈ wsX80, w ∈ wsX10_set := fun _ h => List.mem_cons_of_mem _ (List.mem_append_left _ (List.mem_append_left _ (List.mem_append_left _ (List.mem_append_left _ (List.mem_append_right _ h)))))
  have hinX10 : ∀ w ∈ wsX100, w ∈ wsX10_set := fun _ h => List.mem_cons_of_mem _ (List.mem_append_left _ (List.mem_append_left _ (List.mem_append_left _ (List.mem_append_left _ (List.mem_append_left _ (List.mem_append_left _ (List.mem_append_left _ (List.mem_append_left _ (List.mem_append_right _ h)))))))))
  refine lv_iload_n hx hb dX10_set_0 rfl (lv_at hl 1 rfl) ?_
  refine lv_iload_n hx hb dX10_set_1 rfl (lv_at hl 2 rfl) ?_
  have hPc : va_P D vwCl (wF []) s.heap := hP.sub [] rfl
  refine c_Ri (va_runS (As := [.int p1, .int p2]) (rest := []) ⟨hx, hb, hml, hown, hts⟩ (m7_allows l D cI cL cP p1 p2 s.heap) (va_cwS 2 hts gX10_set_X7_allows rfl rfl rfl (by decide +kernel) ⟨Nat.le_of_ble_eq_true rfl, Nat.le_of_ble_eq_true rfl⟩) (preR_Sz hQ hPc hzS9) rfl rfl hl.1 rfl (lv_room (Nat.le_of_ble_eq_true rfl)) dX10_set_2 ⟨Nat.le_of_ble_eq_true rfl, Nat.le_of_ble_eq_true rfl⟩) hS (fun locs hS => ?_)
  refine lv_if_ne (tgt := 10) hx hb dX10_set_5 (by decide) (fun c1 => ?_) (fun c1 => ?_)
  · have c1 : (F7_allows p1 p2) = true := bI_1.mp c1
    refine lv_aload_n hx hb dX10_set_10 rfl (lv_at hl 0 rfl) ?_
    refine va_get (D := D) (ci := 10) (v := .ref b4) (C := RX10) (T := TX10) (N := 4) hx hb hts hinX10 hown hQ.1 hP 0 rfl rfl 2 (by decide) (hts (.fieldLink RX10 22 "HeatPumpPlant" "history" "LHeatPumpPlant$History;") (List.mem_of_getElem? (i := 1) rfl)) (fun _ h9 => h9) rfl dX10_set_11 ?_
    refine lv_aload_n hx hb dX10_set_14 rfl (lv_at hl 0 rfl) ?_
    refine va_get (D := D) (ci := 10) (v := .ref (a3 0)) (C := RX10) (T := TX10) (N := 4) hx hb hts hinX10 hown hQ.1 hP 0 rfl rfl 0 (by decide) (hts (.fieldLink RX10 10 "HeatPumpPlant" "plant" "LHeatPumpPlant$Plant;") (List.mem_of_getElem? (i := 2) rfl)) (fun _ h9 => h9) rfl dX10_set_15 ?_
    have hPc : va_P D vwCl (wF [gH cP b4 b5 ca ((nI o), (nI k)), gQ cI cL (ca 0) (h 0), gQ cI cL (ca 1) (h 1), gQ cI cL (ca 2) (h 2), gQ cI cL (ca 3) (h 3), gO (a3 0) (a3 1) (a3 3) (a3 7) (a3 10) (a3 12) (a3 14) (a3 16) (pT u), gS cI (a3 1) (a3 2) (pS u), gWe cI (a3 3) (a3 4) (a3 5) (a3 6) (pW u), gK cI (a3 7) (a3 8) (a3 9) (pK u), gB cL (a3 10) (a3 11) (pB u), gP cI (a3 12) (a3 13) (pP u), gA cI (a3 14) (a3 15) (pA u), gC (a3 16) (pC u)]) s.heap := w_psub hP [9, 10, 11, 12, 13, 1, 2, 3, 4, 5, 6, 7, 8] rfl
    have hDc : va_D A (wF [gH cP b4 b5 ca ((nI o), (nI k)), gQ cI cL (ca 0) (h 0), gQ cI cL (ca 1) (h 1), gQ cI cL (ca 2) (h 2), gQ cI cL (ca 3) (h 3), gO (a3 0) (a3 1) (a3 3) (a3 7) (a3 10) (a3 12) (a3 14) (a3 16) (pT u), gS cI (a3 1) (a3 2) (pS u), gWe cI (a3 3) (a3 4) (a3 5) (a3 6) (pW u), gK cI (a3 7) (a3 8) (a3 9) (pK u), gB cL (a3 10) (a3 11) (pB u), gP cI (a3 12) (a3 13) (pP u), gA cI (a3 14) (a3 15) (pA u), gC (a3 16) (pC u)]) := w_gsub hD [9, 10, 11, 12, 13, 1, 2, 3, 4, 5, 6, 7, 8] rfl rfl
    refine c_Mi (F := F4_record o k h u) (G1 := (fun w => [gH cP b4 b5 ca ((nI w.1.1), (nI w.1.2)), gQ cI cL (ca 0) (w.2 0), gQ cI cL (ca 1) (w.2 1), gQ cI cL (ca 2) (w.2 2), gQ cI cL (ca 3) (w.2 3), gO (a3 0) (a3 1) (a3 3) (a3 7) (a3 10) (a3 12) (a3 14) (a3 16) (pT u), gS cI (a3 1) (a3 2) (pS u), gWe cI (a3 3) (a3 4) (a3 5) (a3 6) (pW u), gK cI (a3 7) (a3 8) (a3 9) (pK u), gB cL (a3 10) (a3 11) (pB u), gP cI (a3 12) (a3 13) (pP u), gA cI (a3 14) (a3 15) (pA u), gC (a3 16) (pC u)])) (Gr := [gX b0 (a3 0) b1 b4 b2]) (Gs' := fun z2 => [gX b0 (a3 0) b1 b4 b2, gO (a3 0) (a3 1) (a3 3) (a3 7) (a3 10) (a3 12) (a3 14) (a3 16) (pT u), gS cI (a3 1) (a3 2) (pS u), gWe cI (a3 3) (a3 4) (a3 5) (a3 6) (pW u), gK cI (a3 7) (a3 8) (a3 9) (pK u), gB cL (a3 10) (a3 11) (pB u), gP cI (a3 12) (a3 13) (pP u), gA cI (a3 14) (a3 15) (pA u), gC (a3 16) (pC u), gH cP b4 b5 ca ((nI z2.2.1.1), (nI z2.2.1.2)), gQ cI cL (ca 0) (z2.2.2 0), gQ cI cL (ca 1) (z2.2.2 1), gQ cI cL (ca 2) (z2.2.2 2), gQ cI cL (ca 3) (z2.2.2 3)]) (va_runV (As := [.ref (a3 0)]) (rest := []) ⟨hx, hb, hml, hown, hts⟩ (m4_record l D cI cL cP b4 b5 ca a3 o k h u (by omega) (by omega) s.heap.size) (cwV 1 hts gX10_set_X4_record rfl rfl rfl (by decide +kernel) ⟨Nat.le_of_ble_eq_true rfl, Nat.le_of_ble_eq_true rfl⟩) (preM_V (q := (RX4, TX4, 3)) (q0 := 0) hQ hPc hDc rfl rfl) rfl rfl hl.1 rfl (lv_room (Nat.le_of_ble_eq_true rfl)) dX10_set_18 ⟨Nat.le_of_ble_eq_true rfl, Nat.le_of_ble_eq_true rfl⟩) hS hA hP hD [9, 10, 11, 12, 13, 1, 2, 3, 4, 5, 6, 7, 8] [0] [13, 5, 6, 7, 8, 9, 10, 11, 12, 0, 1, 2, 3, 4] rfl rfl rfl rfl rfl (fun _ => rfl) (fun z2 H locs hz2 hP hD hS => ?_)
    have hP : va_P D vwCl (wF [gX b0 (a3 0) b1 b4 b2, gO (a3 0) (a3 1) (a3 3) (a3 7) (a3 10) (a3 12) (a3 14) (a3 16) (pT u), gS cI (a3 1) (a3 2) (pS u), gWe cI (a3 3) (a3 4) (a3 5) (a3 6) (pW u), gK cI (a3 7) (a3 8) (a3 9) (pK u), gB cL (a3 10) (a3 11) (pB u), gP cI (a3 12) (a3 13) (pP u), gA cI (a3 14) (a3 15) (pA u), gC (a3 16) (pC u), gH cP b4 b5 ca ((nI z2.2.1.1), (nI z2.2.1.2)), gQ cI cL (ca 0) (z2.2.2 0), gQ cI cL (ca 1) (z2.2.2 1), gQ cI cL (ca 2) (z2.2.2 2), gQ cI cL (ca 3) (z2.2.2 3)]) H := hP
    have hD : va_D A (wF [gX b0 (a3 0) b1 b4 b2, gO (a3 0) (a3 1) (a3 3) (a3 7) (a3 10) (a3 12) (a3 14) (a3 16) (pT u), gS cI (a3 1) (a3 2) (pS u), gWe cI (a3 3) (a3 4) (a3 5) (a3 6) (pW u), gK cI (a3 7) (a3 8) (a3 9) (pK u), gB cL (a3 10) (a3 11) (pB u), gP cI (a3 12) (a3 13) (pP u), gA cI (a3 14) (a3 15) (pA u), gC (a3 16) (pC u), gH cP b4 b5 ca ((nI z2.2.1.1), (nI z2.2.1.2)), gQ cI cL (ca 0) (z2.2.2 0), gQ cI cL (ca 1) (z2.2.2 1), gQ cI cL (ca 2) (z2.2.2 2), gQ cI cL (ca 3) (z2.2.2 3)]) := hD
    refine lv_istore_n (lv' := [(3, .int z2.1), (0, .ref b0), (1, .int p1), (2, .int p2)]) hx hb dX10_set_21 rfl hl (by decide) rfl (fun ls hl => ?_)
    refine lv_aload_n hx hb dX10_set_22 rfl (lv_at hl 1 rfl) ?_
    refine va_get (D := D) (ci := 10) (v := .ref (a3 0)) (C := RX10) (T := TX10) (N := 4) hx hb hts hinX10 hown hQ.1 hP 0 rfl rfl 0 (by decide) (hts (.fieldLink RX10 10 "HeatPumpPlant" "plant" "LHeatPumpPlant$Plant;") (List.mem_of_getElem? (i := 2) rfl)) (fun _ h9 => h9) rfl dX10_set_23 ?_
    refine va_get (D := D) (ci := 5) (v := .ref (a3 1)) (C := RX5) (T := TX5) (N := 8) hx hb hts hinX5 hown hQ.1 hP 1 rfl rfl 0 (by decide) (hts (.fieldLink RX10 43 "HeatPumpPlant$Plant" "settings" "LHeatPumpPlant$Settings;") (List.mem_of_getElem? (i := 3) rfl)) (fun _ h9 => h9) rfl dX10_set_26 ?_
    refine lv_iload_n hx hb dX10_set_29 rfl (lv_at hl 2 rfl) ?_
    refine lv_iload_n hx hb dX10_set_30 rfl (lv_at hl 3 rfl) ?_
    have hPc : va_P D vwCl (wF [gS cI (a3 1) (a3 2) (pS u)]) H := w_psub hP [2] rfl
    have hDc : va_D A (wF [gS cI (a3 1) (a3 2) (pS u)]) := w_gsub hD [2] rfl rfl
    refine c_Mv (F := F7_change (pS u) p1 p2) (G1 := (fun w => [gS cI (a3 1) (a3 2) w])) (Gr := [gX b0 (a3 0) b1 b4 b2, gO (a3 0) (a3 1) (a3 3) (a3 7) (a3 10) (a3 12) (a3 14) (a3 16) (pT u), gWe cI (a3 3) (a3 4) (a3 5) (a3 6) (pW u), gK cI (a3 7) (a3 8) (a3 9) (pK u), gB cL (a3 10) (a3 11) (pB u), gP cI (a3 12) (a3 13) (pP u), gA cI (a3 14) (a3 15) (pA u), gC (a3 16) (pC u), gH cP b4 b5 ca ((nI z2.2.1.1), (nI z2.2.1.2)), gQ cI cL (ca 0) (z2.2.2 0), gQ cI cL (ca 1) (z2.2.2 1), gQ cI cL (ca 2) (z2.2.2 2), gQ cI cL (ca 3) (z2.2.2 3)]) (Gs' := fun z3 => [gX b0 (a3 0) b1 b4 b2, gO (a3 0) (a3 1) (a3 3) (a3 7) (a3 10) (a3 12) (a3 14) (a3 16) (pT u), gS cI (a3 1) (a3 2) z3, gWe cI (a3 3) (a3 4) (a3 5) (a3 6) (pW u), gK cI (a3 7) (a3 8) (a3 9) (pK u), gB cL (a3 10) (a3 11) (pB u), gP cI (a3 12) (a3 13) (pP u), gA cI (a3 14) (a3 15) (pA u), gC (a3 16) (pC u), gH cP b4 b5 ca ((nI z2.2.1.1), (nI z2.2.1.2)), gQ cI cL (ca 0) (z2.2.2 0), gQ cI cL (ca 1) (z2.2.2 1), gQ cI cL (ca 2) (z2.2.2 2), gQ cI cL (ca 3) (z2.2.2 3)]) (va_runV (As := [.int p1, .int p2]) (rest := []) ⟨hx, hb, hml, hown, hts⟩ (m7_change l D cI cL cP (a3 1) (a3 2) (pS u) p1 p2 H.size) (cwV 2 hts gX10_set_X7_change rfl rfl rfl (by decide +kernel) ⟨Nat.le_of_ble_eq_true rfl, Nat.le_of_ble_eq_true rfl⟩) (preM_V (q := (RX7, TX7, 1)) (q0 := 0) hQ hPc hDc rfl rfl) rfl rfl hl.1 rfl (lv_room (Nat.le_of_ble_eq_true rfl)) dX10_set_31 ⟨Nat.le_of_ble_eq_true rfl, Nat.le_of_ble_eq_true rfl⟩) hS hA hP hD [2] [0, 1, 3, 4, 5, 6, 7, 8, 9, 10, 11, 12, 13] [1, 2, 0, 3, 4, 5, 6, 7, 8, 9, 10, 11, 12, 13] rfl rfl rfl rfl rfl (fun _ => rfl) (fun z3 H locs hz3 hP hD hS => ?_)
    have hP : va_P D vwCl (wF [gX b0 (a3 0) b1 b4 b2, gO (a3 0) (a3 1) (a3 3) (a3 7) (a3 10) (a3 12) (a3 14) (a3 16) (pT u), gS cI (a3 1) (a3 2) z3, gWe cI (a3 3) (a3 4) (a3 5) (a3 6) (pW u), gK cI (a3 7) (a3 8) (a3 9) (pK u), gB cL (a3 10) (a3 11) (pB u), gP cI (a3 12) (a3 13) (pP u), gA cI (a3 14) (a3 15) (pA u), gC (a3 16) (pC u), gH cP b4 b5 ca ((nI z2.2.1.1), (nI z2.2.1.2)), gQ cI cL (ca 0) (z2.2.2 0), gQ cI cL (ca 1) (z2.2.2 1), gQ cI cL (ca 2) (z2.2.2 2), gQ cI cL (ca 3) (z2.2.2 3)]) H := hP
    have hD : va_D A (wF [gX b0 (a3 0) b1 b4 b2, gO (a3 0) (a3 1) (a3 3) (a3 7) (a3 10) (a3 12) (a3 14) (a3 16) (pT u), gS cI (a3 1) (a3 2) z3, gWe cI (a3 3) (a3 4) (a3 5) (a3 6) (pW u), gK cI (a3 7) (a3 8) (a3 9) (pK u), gB cL (a3 10) (a3 11) (pB u), gP cI (a3 12) (a3 13) (pP u), gA cI (a3 14) (a3 15) (pA u), gC (a3 16) (pC u), gH cP b4 b5 ca ((nI z2.2.1.1), (nI z2.2.1.2)), gQ cI cL (ca 0) (z2.2.2 0), gQ cI cL (ca 1) (z2.2.2 1), gQ cI cL (ca 2) (z2.2.2 2), gQ cI cL (ca 3) (z2.2.2 3)]) := hD
    refine lv_iload_n hx hb dX10_set_34 rfl (lv_at hl 0 rfl) ?_
    exact W.iret (v := z2.1) hx hb hr (fun t ht hW => ⟨⟨z2.1, ((z3, (pW u), (pK u), (pB u), (pP u), (pA u), (pC u), (pT u)), ((z2.2.1.1, z2.2.1.2), z2.2.2)), rfl, ((Eq.trans (if_pos c1) (Eq.trans (congrArg (K10_set_1 u o k h p1 p2) hz2.symm) (Eq.trans (congrArg (K10_set_2 u o k h p1 p2 z2) hz3.symm) (rfl)))).symm), by rw [ht]; exact hP, hD⟩, hS.F ht⟩) hS.2.2 dX10_set_35
  · have c1 : ¬ ((F7_allows p1 p2) = true) := bI_0.mp c1
    refine lv_iconst (v := (-1 : Int32)) hx hb dX10_set_8 (by decide) ?_
    exact W.iret (v := (-1 : Int32)) hx hb hr (fun t ht hW => ⟨⟨(-1 : Int32), (u, ((o, k), h)), rfl, ((Eq.trans (if_neg c1) (rfl)).symm), by rw [ht]; exact hP, hD⟩, hS.F ht⟩) hS.2.2 dX10_set_9
