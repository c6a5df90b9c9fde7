def F10_copyRow (n : Nat) (x0 : SS) (x1 : SS) : SS := x0
set_option maxHeartbeats 4000000 in
set_option maxRecDepth 100000 in
theorem m10_copyRow (l : Launch) (D : va_G) (cI cL cP : ClassId) (b0 : Nat) (n : Nat) (b1 : Nat) (x0 : SS) (x1 : SS) (hn : n < 2 ^ 31) (sz : Nat) : Met l yX10_copyRow wsX10_copyRow ({ frames := 0, cells := 0, slots := 0, locals := 0 }) (va_Pc [.ref b0, .ref b1] (pM D cI cL cP sz (wF [gI cI b0 n x0, gI cI b1 n x1]))) (va_Qv (fun (w : SS) => w = F10_copyRow n x0 x1) (qW D (va_A (wF [gI cI b0 n x0, gI cI b1 n x1]) sz) (fun w : SS => (wF [gI cI b0 n x0, gI cI b1 n w]))) (va_A (wF [gI cI b0 n x0, gI cI b1 n x1]) sz)) 0 0 (va_A (wF [gI cI b0 n x0, gI cI b1 n x1]) sz) := by
  refine Met.ofW (cc := cX10_copyRow) (maxL := 3) (ret := none) (by decide) rfl ?_
  intro p e s m args below meth c s₁ B hml hv
  obtain ⟨rfl, hsz, hP, hQ, hD0⟩ := hv
  have hx := B.exec
  have hb := B.bytes
  have hr := B.returns
  have hts := atoms_spec (ws := wsX10_copyRow) B.pre
  have hown : s.vm.findClass RX10 = some m.cls := findClass_of_methodNamed B.named
  have hlocks := B.notSynchronized
  subst hsz
  have hD := hD0.self (sz := s.heap.size)
  generalize hAe : va_A (wF [gI cI b0 n x0, gI cI b1 n x1]) s.heap.size = A at hD ⊢
  have hA : ∀ q : Nat, s.heap.size ≤ q → A q := fun q h => by rw [← hAe]; exact Or.inr h
  have hS : va_S A s.heap s.heap [] := va_S.rf
  have hP : va_P D vwCl (wF [gI cI b0 n x0, gI cI b1 n x1]) s.heap := hP
  have hl := lv_entry ([.ref b0, .ref b1]) (n := 3) (Nat.le_of_ble_eq_true rfl)
  rw [lg_entry_eq]
  generalize (lg_sl ([.ref b0, .ref b1]) ++ List.replicate (3 - (lg_sl ([.ref b0, .ref b1])).length) Slot.unset).toArray = ls at hl ⊢
  have hl : lv_has ls 3 [(0, .ref b0), (1, .ref b1)] := hl
  refine lv_iconst (v := (0 : Int32)) hx hb dX10_copyRow_0 (by decide) ?_
  refine lv_istore_n (lv' := [(2, .int (0 : Int32)), (0, .ref b0), (1, .ref b1)]) hx hb dX10_copyRow_1 rfl hl (by decide) rfl (fun ls hl => ?_)
  rw [show x1 = (w_cp x0 x1 0) from (w_cp0 x0 x1)] at hP hD
  have loop2 : ∀ (fu : Nat) (i : Nat) (hi : i ≤ n) (hm : n - i < fu) , ∀ (H : Heap) (locs : List Loc) (_ : va_P D vwCl (wF [gI cI b0 n x0, gI cI b1 n (w_cp x0 x1 i)]) H) (_ : va_D A (wF [gI cI b0 n x0, gI cI b1 n (w_cp x0 x1 i)])) (_ : va_S A s.heap H locs) (ls : Array Slot) (_ : lv_has ls 3 [(2, .int (nI i)), (0, .ref b0), (1, .ref b1)]), W p l e (headSpec wsX10_copyRow ({ frames := 0, cells := 0, slots := 0, locals := 0 })).room s m #[.ref b0, .ref b1] below meth c H locs 0 0 (MQ below (va_Qv (fun (w : SS) => w = F10_copyRow n x0 x1) (qW D A (fun w : SS => (wF [gI cI b0 n x0, gI cI b1 n w]))) A) #[.ref b0, .ref b1] s 0 0 A) (F0 m 2 ls []) := by
    intro fu
    induction fu with
    | zero => intro i hi hm; exact absurd hm (by omega)
    | succ fu ih =>
      intro i hi hm  H locs hP hD hS ls hl
      refine lv_iload_n hx hb dX10_copyRow_2 rfl (lv_at hl 0 rfl) ?_
      refine lv_aload_n hx hb dX10_copyRow_3 rfl (lv_at hl 2 rfl) ?_
      refine va_alen (v := (nI n)) hx hb hQ.1 hP 1 0 rfl rfl rfl dX10_copyRow_4 ?_
      refine lv_icmp_ge (tgt := 26) hx hb dX10_copyRow_5 (by decide) (fun c1 => ?_) (fun c1 => ?_)
      · have c1 : n ≤ i := (nI_leI (a := n) (b := i) (by omega) (by omega)).mp c1
        have hs9 : sim (wF [gI cI b0 n x0, gI cI b1 n (w_cp x0 x1 i)]) (wF [gI cI b0 n x0, gI cI b1 n x0]) := sim.a (sim.r) (sim.a (sim.i (w_cpn x0 x1 (by omega))) (sim.r))
        have hP : va_P D vwCl (wF [gI cI b0 n x0, gI cI b1 n x0]) H := hs9.1 _ _ _ hP
        have hD : va_D A (wF [gI cI b0 n x0, gI cI b1 n x0]) := hs9.d hD
        exact W.vret hx hb hr (fun t ht hW => ⟨⟨x0, rfl, (rfl), by rw [ht]; exact hP, hD⟩, hS.F ht⟩) hS.2.2 dX10_copyRow_26
      · have c1 : ¬ (n ≤ i) := fun h9 => c1 ((nI_leI (a := n) (b := i) (by omega) (by omega)).mpr h9)
        refine lv_iload_n hx hb dX10_copyRow_8 rfl (lv_at hl 0 rfl) ?_
        refine lv_aload_n hx hb dX10_copyRow_9 rfl (lv_at hl 1 rfl) ?_
        refine va_alen (v := (nI n)) hx hb hQ.1 hP 0 0 rfl rfl rfl dX10_copyRow_10 ?_
        refine lv_icmp_ge (tgt := 26) hx hb dX10_copyRow_11 (by decide) (fun c2 => ?_) (fun c2 => ?_)
        · have c2 : n ≤ i := (nI_leI (a := n) (b := i) (by omega) (by omega)).mp c2
          have hs9 : sim (wF [gI cI b0 n x0, gI cI b1 n (w_cp x0 x1 i)]) (wF [gI cI b0 n x0, gI cI b1 n x0]) := sim.a (sim.r) (sim.a (sim.i (w_cpn x0 x1 (by omega))) (sim.r))
          have hP : va_P D vwCl (wF [gI cI b0 n x0, gI cI b1 n x0]) H := hs9.1 _ _ _ hP
          have hD : va_D A (wF [gI cI b0 n x0, gI cI b1 n x0]) := hs9.d hD
          exact W.vret hx hb hr (fun t ht hW => ⟨⟨x0, rfl, (rfl), by rw [ht]; exact hP, hD⟩, hS.F ht⟩) hS.2.2 dX10_copyRow_26
        · have c2 : ¬ (n ≤ i) := fun h9 => c2 ((nI_leI (a := n) (b := i) (by omega) (by omega)).mpr h9)
          refine lv_aload_n hx hb dX10_copyRow_14 rfl (lv_at hl 2 rfl) ?_
          refine lv_iload_n hx hb dX10_copyRow_15 rfl (lv_at hl 0 rfl) ?_
          refine lv_aload_n hx hb dX10_copyRow_16 rfl (lv_at hl 1 rfl) ?_
          refine lv_iload_n hx hb dX10_copyRow_17 rfl (lv_at hl 0 rfl) ?_
          refine w_iald (f := x0) (j := i) hx hb hQ.1 hP 0 0 rfl rfl rfl (by omega) hn dX10_copyRow_18 ?_
          refine w_iast (f := (w_cp x0 x1 i)) (j := i) hx hb hQ.1 hP hD hS 1 0 rfl rfl rfl (by omega) hn dX10_copyRow_19 (fun H locs hP hD hS => ?_)
          have hP : va_P D vwCl (wF [gI cI b0 n x0, gI cI b1 n (upd (w_cp x0 x1 i) i (x0 i))]) H := hP
          have hD : va_D A (wF [gI cI b0 n x0, gI cI b1 n (upd (w_cp x0 x1 i) i (x0 i))]) := hD
          refine lv_iinc (v := (nI (i + 1))) (lv' := [(2, .int (nI (i + 1))), (0, .ref b0), (1, .ref b1)]) hx hb dX10_copyRow_20 hl (k := 0) rfl (nI_add i 1) (by decide) rfl (fun ls hl => ?_)
          refine lv_goto (tgt := 2) hx hb dX10_copyRow_23 (by decide) ?_
          rw [show (upd (w_cp x0 x1 i) i (x0 i)) = (w_cp x0 x1 (i + 1)) from (w_cp1 x0 x1 i)] at hP hD
          have hP : va_P D vwCl (wF [gI cI b0 n x0, gI cI b1 n (w_cp x0 x1 (i + 1))]) H := hP
          have hD : va_D A (wF [gI cI b0 n x0, gI cI b1 n (w_cp x0 x1 (i + 1))]) := hD
          exact ih (i + 1) (by omega) (by omega)  H locs hP hD hS ls (lv_sub hl [0, 1, 2] rfl)
  have hP : va_P D vwCl (wF [gI cI b0 n x0, gI cI b1 n (w_cp x0 x1 0)]) s.heap := hP
  have hD : va_D A (wF [gI cI b0 n x0, gI cI b1 n (w_cp x0 x1 0)]) := hD
  exact loop2 (n + 1) 0 (Nat.zero_le _) (by omega)  s.heap [] hP hD hS ls (lv_sub hl [0, 1, 2] rfl)
def F10_setAll (n : Nat) (x0 : SS) (p2 : Int32) : SS := (fun _ => p2)
set_option maxHeartbeats 4000000 in
set_option maxRecDepth 100000 in
theorem m10_setAll (l : Launch) (D : va_G) (cI cL cP : ClassId) (b0 : Nat) (n : Nat) (x0 : SS) (p2 : Int32) (hn : n < 2 ^ 31) (sz : Nat) : Met l yX10_setAll wsX10_setAll ({ frames := 0, cells := 0, slots := 0, locals := 0 }) (va_Pc [.ref b0, .int p2] (pM D cI cL cP sz (wF [gI cI b0 n x0]))) (va_Qv (fun (w : SS) => w = F10_setAll n x0 p2) (qW D (va_A (wF [gI cI b0 n x0]) sz) (fun w : SS => (wF [gI cI b0 n w]))) (va_A (wF [gI cI b0 n x0]) sz)) 0 0 (va_A (wF [gI cI b0 n x0]) sz) := by
  refine Met.ofW (cc := cX10_setAll) (maxL := 3) (ret := none) (by decide) rfl ?_
  intro p e s m args below meth c s₁ B hml hv
  obtain ⟨rfl, hsz, hP, hQ, hD0⟩ := hv
  have hx := B.exec
  have hb := B.bytes
  have hr := B.returns
  have hts := atoms_spec (ws := wsX10_setAll) B.pre
  have hown : s.vm.findClass RX10 = some m.cls := findClass_of_methodNamed B.named
  have hlocks := B.notSynchronized
  subst hsz
  have hD := hD0.self (sz := s.heap.size)
  generalize hAe : va_A (wF [gI cI b0 n x0]) s.heap.size = A at hD ⊢
  have hA : ∀ q : Nat, s.heap.size ≤ q → A q := fun q h => by rw [← hAe]; exact Or.inr h
  have hS : va_S A s.heap s.heap [] := va_S.rf
  have hP : va_P D vwCl (wF [gI cI b0 n x0]) s.heap := hP
  have hl := lv_entry ([.ref b0, .int p2]) (n := 3) (Nat.le_of_ble_eq_true rfl)
  rw [lg_entry_eq]
  generalize (lg_sl ([.ref b0, .int p2]) ++ List.replicate (3 - (lg_sl ([.ref b0, .int p2])).length) Slot.unset).toArray = ls at hl ⊢
  have hl : lv_has ls 3 [(0, .ref b0), (1, .int p2)] := hl
  refine lv_iconst (v := (0 : Int32)) hx hb dX10_setAll_0 (by decide) ?_
  refine lv_istore_n (lv' := [(2, .int (0 : Int32)), (0, .ref b0), (1, .int p2)]) hx hb dX10_setAll_1 rfl hl (by decide) rfl (fun ls hl => ?_)
  rw [show x0 = (w_cp (fun _ => p2) x0 0) from (w_cp0 (fun _ => p2) x0)] at hP hD
  have loop2 : ∀ (fu : Nat) (i : Nat) (hi : i ≤ n) (hm : n - i < fu) , ∀ (H : Heap) (locs : List Loc) (_ : va_P D vwCl (wF [gI cI b0 n (w_cp (fun _ => p2) x0 i)]) H) (_ : va_D A (wF [gI cI b0 n (w_cp (fun _ => p2) x0 i)])) (_ : va_S A s.heap H locs) (ls : Array Slot) (_ : lv_has ls 3 [(2, .int (nI i)), (0, .ref b0), (1, .int p2)]), W p l e (headSpec wsX10_setAll ({ frames := 0, cells := 0, slots := 0, locals := 0 })).room s m #[.ref b0, .int p2] below meth c H locs 0 0 (MQ below (va_Qv (fun (w : SS) => w = F10_setAll n x0 p2) (qW D A (fun w : SS => (wF [gI cI b0 n w]))) A) #[.ref b0, .int p2] s 0 0 A) (F0 m 2 ls []) := by
    intro fu
    induction fu with
    | zero => intro i hi hm; exact absurd hm (by omega)
    | succ fu ih =>
      intro i hi hm  H locs hP hD hS ls hl
      refine lv_iload_n hx hb dX10_setAll_2 rfl (lv_at hl 0 rfl) ?_
      refine lv_aload_n hx hb dX10_setAll_3 rfl (lv_at hl 1 rfl) ?_
      refine va_alen (v := (nI n)) hx hb hQ.1 hP 0 0 rfl rfl rfl dX10_setAll_4 ?_
      refine lv_icmp_ge (tgt := 18) hx hb dX10_setAll_5 (by decide) (fun c1 => ?_) (fun c1 => ?_)
      · have c1 : n ≤ i := (nI_leI (a := n) (b := i) (by omega) (by omega)).mp c1
        have hs9 : sim (wF [gI cI b0 n (w_cp (fun _ => p2) x0 i)]) (wF [gI cI b0 n (fun _ => p2)]) := sim.a (sim.i (w_cpn (fun _ => p2) x0 (by omega))) (sim.r)
        have hP : va_P D vwCl (wF [gI cI b0 n (fun _ => p2)]) H := hs9.1 _ _ _ hP
        have hD : va_D A (wF [gI cI b0 n (fun _ => p2)]) := hs9.d hD
        exact W.vret hx hb hr (fun t ht hW => ⟨⟨(fun _ => p2), rfl, (rfl), by rw [ht]; exact hP, hD⟩, hS.F ht⟩) hS.2.2 dX10_setAll_18
      · have c1 : ¬ (n ≤ i) := fun h9 => c1 ((nI_leI (a := n) (b := i) (by omega) (by omega)).mpr h9)
        refine lv_aload_n hx hb dX10_setAll_8 rfl (lv_at hl 1 rfl) ?_
        refine lv_iload_n hx hb dX10_setAll_9 rfl (lv_at hl 0 rfl) ?_
        refine lv_iload_n hx hb dX10_setAll_10 rfl (lv_at hl 2 rfl) ?_
        refine w_iast (f := (w_cp (fun _ => p2) x0 i)) (j := i) hx hb hQ.1 hP hD hS 0 0 rfl rfl rfl (by omega) hn dX10_setAll_11 (fun H locs hP hD hS => ?_)
        have hP : va_P D vwCl (wF [gI cI b0 n (upd (w_cp (fun _ => p2) x0 i) i p2)]) H := hP
        have hD : va_D A (wF [gI cI b0 n (upd (w_cp (fun _ => p2) x0 i) i p2)]) := hD
        refine lv_iinc (v := (nI (i + 1))) (lv' := [(2, .int (nI (i + 1))), (0, .ref b0), (1, .int p2)]) hx hb dX10_setAll_12 hl (k := 0) rfl (nI_add i 1) (by decide) rfl (fun ls hl => ?_)
        refine lv_goto (tgt := 2) hx hb dX10_setAll_15 (by decide) ?_
        rw [show (upd (w_cp (fun _ => p2) x0 i) i p2) = (w_cp (fun _ => p2) x0 (i + 1)) from (w_cp1 (fun _ => p2) x0 i)] at hP hD
        have hP : va_P D vwCl (wF [gI cI b0 n (w_cp (fun _ => p2) x0 (i + 1))]) H := hP
        have hD : va_D A (wF [gI cI b0 n (w_cp (fun _ => p2) x0 (i + 1))]) := hD
        exact ih (i + 1) (by omega) (by omega)  H locs hP hD hS ls (lv_sub hl [0, 1, 2] rfl)
  have hP : va_P D vwCl (wF [gI cI b0 n (w_cp (fun _ => p2) x0 0)]) s.heap := hP
  have hD : va_D A (wF [gI cI b0 n (w_cp (fun _ => p2) x0 0)]) := hD
  exact loop2 (n + 1) 0 (Nat.zero_le _) (by omega)  s.heap [] hP hD hS ls (lv_sub hl [0, 1, 2] rfl)
def F1_copyFrom (x0 : SB) (x1 : SB) : SB := x1
set_option maxHeartbeats 4000000 in
set_option maxRecDepth 100000 in
theorem m1_copyFrom (l : Launch) (D : va_G) (cI cL cP : ClassId) (b0 : Nat) (b1 : Nat) (b2 : Nat) (b3 : Nat) (x0 : SB) (x1 : SB) (sz : Nat) : Met l yX1_copyFrom wsX1_copyFrom ({ frames := 0, cells := 0, slots := 0, locals := 0 }) (va_Pc [.ref b0, .ref b2] (pM D cI cL cP sz (wF [gB cL b0 b1 x0, gB cL b2 b3 x1]))) (va_Qv (fun (w : SB) => w = F1_copyFrom x0 x1) (qW D (va_A (wF [gB cL b0 b1 x0, gB cL b2 b3 x1]) sz) (fun w : SB => (wF [gB cL b0 b1 w, gB cL b2 b3 x1]))) (va_A (wF [gB cL b0 b1 x0, gB cL b2 b3 x1]) sz)) 0 0 (va_A (wF [gB cL b0 b1 x0, gB cL b2 b3 x1]) sz) := by
  refine Met.ofW (cc := cX1_copyFrom) (maxL := 3) (ret := none) (by decide) rfl ?_
  intro p e s m args below meth c s₁ B hml hv
  obtain ⟨rfl, hsz, hP, hQ, hD0⟩ := hv
  have hx := B.exec
  have hb := B.bytes
  have hr := B.returns
  have hts := atoms_spec (ws := wsX1_copyFrom) B.pre
  have hown : s.vm.findClass RX1 = some m.cls := findClass_of_methodNamed B.named
  have hlocks := B.notSynchronized
  subst hsz
  have hD := hD0.self (sz := s.heap.size)
  generalize hAe : va_A (wF [gB cL b0 b1 x0, gB cL b2 b3 x1]) s.heap.size = A at hD ⊢
  have hA : ∀ q : Nat, s.heap.size ≤ q → A q := fun q h => by rw [← hAe]; exact Or.inr h
  have hS : va_S A s.heap s.heap [] := va_S.rf
  have hP : va_P D vwCl (wF [gB cL b0 b1 x0, gB cL b2 b3 x1]) s.heap := hP
  have hl := lv_entry ([.ref b0, .ref b2]) (n := 3) (Nat.le_of_ble_eq_true rfl)
  rw [lg_entry_eq]
  generalize (lg_sl ([.ref b0, .ref b2]) ++ List.replicate (3 - (lg_sl ([.ref b0, .ref b2])).length) Slot.unset).toArray = ls at hl ⊢
  have hl : lv_has ls 3 [(0, .ref b0), (1, .ref b2)] := hl
  have hinX1 : ∀ w ∈ wsX10, w ∈ wsX1_copyFrom := fun _ h => List.mem_cons_of_mem _ (List.mem_append_right _ h)
  refine lv_iconst (v := (0 : Int32)) hx hb dX1_copyFrom_0 (by decide) ?_
  refine lv_istore_n (lv' := [(2, .int (0 : Int32)), (0, .ref b0), (1, .ref b2)]) hx hb dX1_copyFrom_1 rfl hl (by decide) rfl (fun ls hl => ?_)
  refine lv_iload_n hx hb dX1_copyFrom_2 rfl (lv_at hl 0 rfl) ?_
  refine lv_aload_n hx hb dX1_copyFrom_3 rfl (lv_at hl 1 rfl) ?_
  refine va_get (D := D) (ci := 1) (v := .ref b1) (C := RX1) (T := TX1) (N := 2) hx hb hts hinX1 hown hQ.1 hP 0 rfl rfl 0 (by decide) (hts (.fieldLink RX1 11 "HeatPumpPlant$Buffer" "energies" "[J") (List.mem_of_getElem? (i := 1) rfl)) (fun _ h9 => h9) rfl dX1_copyFrom_4 ?_
  refine va_alen (v := (4 : Int32)) hx hb hQ.1 hP 1 1 rfl rfl rfl dX1_copyFrom_7 ?_
  refine lv_icmp_ge (tgt := 38) hx hb dX1_copyFrom_8 (by decide) (fun c1 => absurd c1 (by decide)) (fun _ => ?_)
  refine lv_iload_n hx hb dX1_copyFrom_11 rfl (lv_at hl 0 rfl) ?_
  refine lv_aload_n hx hb dX1_copyFrom_12 rfl (lv_at hl 2 rfl) ?_
  refine va_get (D := D) (ci := 1) (v := .ref b3) (C := RX1) (T := TX1) (N := 2) hx hb hts hinX1 hown hQ.1 hP 2 rfl rfl 0 (by decide) (hts (.fieldLink RX1 11 "HeatPumpPlant$Buffer" "energies" "[J") (List.mem_of_getElem? (i := 1) rfl)) (fun _ h9 => h9) rfl dX1_copyFrom_13 ?_
  refine va_alen (v := (4 : Int32)) hx hb hQ.1 hP 3 1 rfl rfl rfl dX1_copyFrom_16 ?_
  refine lv_icmp_ge (tgt := 38) hx hb dX1_copyFrom_17 (by decide) (fun c2 => absurd c2 (by decide)) (fun _ => ?_)
  refine lv_aload_n hx hb dX1_copyFrom_20 rfl (lv_at hl 1 rfl) ?_
  refine va_get (D := D) (ci := 1) (v := .ref b1) (C := RX1) (T := TX1) (N := 2) hx hb hts hinX1 hown hQ.1 hP 0 rfl rfl 0 (by decide) (hts (.fieldLink RX1 11 "HeatPumpPlant$Buffer" "energies" "[J") (List.mem_of_getElem? (i := 1) rfl)) (fun _ h9 => h9) rfl dX1_copyFrom_21 ?_
  refine lv_iload_n hx hb dX1_copyFrom_24 rfl (lv_at hl 0 rfl) ?_
  refine lv_aload_n hx hb dX1_copyFrom_25 rfl (lv_at hl 2 rfl) ?_
  refine va_get (D := D) (ci := 1) (v := .ref b3) (C := RX1) (T := TX1) (N := 2) hx hb hts hinX1 hown hQ.1 hP 2 rfl rfl 0 (by decide) (hts (.fieldLink RX1 11 "HeatPumpPlant$Buffer" "energies" "[J") (List.mem_of_getElem? (i := 1) rfl)) (fun _ h9 => h9) rfl dX1_copyFrom_26 ?_
  refine lv_iload_n hx hb dX1_copyFrom_29 rfl (lv_at hl 0 rfl) ?_
  refine w_lald (f := x1.1) (j := 0) hx hb hQ.1 hP 3 1 rfl rfl (rfl : (0 : Int32) = nI 0) (by omega) (by decide) dX1_copyFrom_30 ?_
  refine w_last (f := x0.1) (j := 0) hx hb hQ.1 hP hD hS 1 1 rfl rfl (rfl : (0 : Int32) = nI 0) (by omega) (by decide) dX1_copyFrom_31 (fun H locs hP hD hS => ?_)
  have hP : va_P D vwCl (wF [gB cL b0 b1 ((vp_updL x0.1 0 (x1.1 0)), x0.2), gB cL b2 b3 x1]) H := hP
  have hD : va_D A (wF [gB cL b0 b1 ((vp_updL x0.1 0 (x1.1 0)), x0.2), gB cL b2 b3 x1]) := hD
  refine lv_iinc (v := (1 : Int32)) (lv' := [(2, .int (1 : Int32)), (0, .ref b0), (1, .ref b2)]) hx hb dX1_copyFrom_32 hl (k := 0) rfl (by decide) (by decide) rfl (fun ls hl => ?_)
  refine lv_goto (tgt := 2) hx hb dX1_copyFrom_35 (by decide) ?_
  refine lv_iload_n hx hb dX1_copyFrom_2 rfl (lv_at hl 0 rfl) ?_
  refine lv_aload_n hx hb dX1_copyFrom_3 rfl (lv_at hl 1 rfl) ?_
  refine va_get (D := D) (ci := 1) (v := .ref b1) (C := RX1) (T := TX1) (N := 2) hx hb hts hinX1 hown hQ.1 hP 0 rfl rfl 0 (by decide) (hts (.fieldLink RX1 11 "HeatPumpPlant$Buffer" "energies" "[J") (List.mem_of_getElem? (i := 1) rfl)) (fun _ h9 => h9) rfl dX1_copyFrom_4 ?_
  refine va_alen (v := (4 : Int32)) hx hb hQ.1 hP 1 1 rfl rfl rfl dX1_copyFrom_7 ?_
  refine lv_icmp_ge (tgt := 38) hx hb dX1_copyFrom_8 (by decide) (fun c3 => absurd c3 (by decide)) (fun _ => ?_)
  refine lv_iload_n hx hb dX1_copyFrom_11 rfl (lv_at hl 0 rfl) ?_
  refine lv_aload_n hx hb dX1_copyFrom_12 rfl (lv_at hl 2 rfl) ?_
  refine va_get (D := D) (ci := 1) (v := .ref b3) (C := RX1) (T := TX1) (N := 2) hx hb hts hinX1 hown hQ.1 hP 2 rfl rfl 0 (by decide) (hts (.fieldLink RX1 11 "HeatPumpPlant$Buffer" "energies" "[J") (List.mem_of_getElem? (i := 1) rfl)) (fun _ h9 => h9) rfl dX1_copyFrom_13 ?_
  refine va_alen (v := (4 : Int32)) hx hb hQ.1 hP 3 1 rfl rfl rfl dX1_copyFrom_16 ?_
  refine lv_icmp_ge (tgt := 38) hx hb dX1_copyFrom_17 (by decide) (fun c4 => absurd c4 (by decide)) (fun _ => ?_)
  refine lv_aload_n hx hb dX1_copyFrom_20 rfl (lv_at hl 1 rfl) ?_
  refine va_get (D := D) (ci := 1) (v := .ref b1) (C := RX1) (T := TX1) (N := 2) hx hb hts hinX1 hown hQ.1 hP 0 rfl rfl 0 (by decide) (hts (.fieldLink RX1 11 "HeatPumpPlant$Buffer" "energies" "[J") (List.mem_of_getElem? (i := 1) rfl)) (fun _ h9 => h9) rfl dX1_copyFrom_21 ?_
  refine lv_iload_n hx hb dX1_copyFrom_24 rfl (lv_at hl 0 rfl) ?_
  refine lv_aload_n hx hb dX1_copyFrom_25 rfl (lv_at hl 2 rfl) ?_
  refine va_get (D := D) (ci := 1) (v := .ref b3) (C := RX1) (T := TX1) (N := 2) hx hb hts hinX1 hown hQ.1 hP 2 rfl rfl 0 (by decide) (hts (.fieldLink RX1 11 "HeatPumpPlant$Buffer" "energies" "[J") (List.mem_of_getElem? (i := 1) rfl)) (fun _ h9 => h9) rfl dX1_copyFrom_26 ?_
  refine lv_iload_n hx hb dX1_copyFrom_29 rfl (lv_at hl 0 rfl) ?_
  refine w_lald (f := x1.1) (j := 1) hx hb hQ.1 hP 3 1 rfl rfl (rfl : (1 : Int32) = nI 1) (by omega) (by decide) dX1_copyFrom_30 ?_
  refine w_last (f := (vp_updL x0.1 0 (x1.1 0))) (j := 1) hx hb hQ.1 hP hD hS 1 1 rfl rfl (rfl : (1 : Int32) = nI 1) (by omega) (by decide) dX1_copyFrom_31 (fun H locs hP hD hS => ?_)
  have hP : va_P D vwCl (wF [gB cL b0 b1 ((vp_updL (vp_updL x0.1 0 (x1.1 0)) 1 (x1.1 1)), x0.2), gB cL b2 b3 x1]) H := hP
  have hD : va_D A (wF [gB cL b0 b1 ((vp_updL (vp_updL x0.1 0 (x1.1 0)) 1 (x1.1 1)), x0.2), gB cL b2 b3 x1]) := hD
  refine lv_iinc (v := (2 : Int32)) (lv' := [(2, .int (2 : Int32)), (0, .ref b0), (1, .ref b2)]) hx hb dX1_copyFrom_32 hl (k := 0) rfl (by decide) (by decide) rfl (fun ls hl => ?_)
  refine lv_goto (tgt := 2) hx hb dX1_copyFrom_35 (by decide) ?_
  refine lv_iload_n hx hb dX1_copyFrom_2 rfl (lv_at hl 0 rfl) ?_
  refine lv_aload_n hx hb dX1_copyFrom_3 rfl (lv_at hl 1 rfl) ?_
  refine va_get (D := D) (ci := 1) (v := .ref b1) (C := RX1) (T := TX1) (N := 2) hx hb hts hinX1 hown hQ.1 hP 0 rfl rfl 0 (by decide) (hts (.fieldLink RX1 11 "HeatPumpPlant$Buffer" "energies" "[J") (List.mem_of_getElem? (i := 1) rfl)) (fun _ h9 => h9) rfl dX1_copyFrom_4 ?_
  refine va_alen (v := (4 : Int32)) hx hb hQ.1 hP 1 1 rfl rfl rfl dX1_copyFrom_7 ?_
  refine lv_icmp_ge (tgt := 38) hx hb dX1_copyFrom_8 (by decide) (fun c5 => absurd c5 (by decide)) (fun _ => ?_)
  refine lv_iload_n hx hb dX1_copyFrom_11 rfl (lv_at hl 0 rfl) ?_
  refine lv_aload_n hx hb dX1_copyFrom_12 rfl (lv_at hl 2 rfl) ?_
  refine va_get (D := D) (ci := 1) (v := .ref b3) (C := RX1) (T := TX1) (N := 2) hx hb hts hinX1 hown hQ.1 hP 2 rfl rfl 0 (by decide) (hts (.fieldLink RX1 11 "HeatPumpPlant$Buffer" "energies" "[J") (List.mem_of_getElem? (i := 1) rfl)) (fun _ h9 => h9) rfl dX1_copyFrom_13 ?_
  refine va_alen (v := (4 : Int32)) hx hb hQ.1 hP 3 1 rfl rfl rfl dX1_copyFrom_16 ?_
  refine lv_icmp_ge (tgt := 38) hx hb dX1_copyFrom_17 (by decide) (fun c6 => absurd c6 (by decide)) (fun _ => ?_)
  refine lv_aload_n hx hb dX1_copyFrom_20 rfl (lv_at hl 1 rfl) ?_
  refine va_get (D := D) (ci := 1) (v := .ref b1) (C := RX1) (T := TX1) (N := 2) hx hb hts hinX1 hown hQ.1 hP 0 rfl rfl 0 (by decide) (hts (.fieldLink RX1 11 "HeatPumpPlant$Buffer" "energies" "[J") (List.mem_of_getElem? (i := 1) rfl)) (fun _ h9 => h9) rfl dX1_copyFrom_21 ?_
  refine lv_iload_n hx hb dX1_copyFrom_24 rfl (lv_at hl 0 rfl) ?_
  refine lv_aload_n hx hb dX1_copyFrom_25 rfl (lv_at hl 2 rfl) ?_
  refine va_get (D := D) (ci := 1) (v := .ref b3) (C := RX1) (T := TX1) (N := 2) hx hb hts hinX1 hown hQ.1 hP 2 rfl rfl 0 (by decide) (hts (.fieldLink RX1 11 "HeatPumpPlant$Buffer" "energies" "[J") (List.mem_of_getElem? (i := 1) rfl)) (fun _ h9 => h9) rfl dX1_copyFrom_26 ?_
  refine lv_iload_n hx hb dX1_copyFrom_29 rfl (lv_at hl 0 rfl) ?_
  refine w_lald (f := x1.1) (j := 2) hx hb hQ.1 hP 3 1 rfl rfl (rfl : (2 : Int32) = nI 2) (by omega) (by decide) dX1_copyFrom_30 ?_
  refine w_last (f := (vp_updL (vp_updL x0.1 0 (x1.1 0)) 1 (x1.1 1))) (j := 2) hx hb hQ.1 hP hD hS 1 1 rfl rfl (rfl : (2 : Int32) = nI 2) (by omega) (by decide) dX1_copyFrom_31 (fun H locs hP hD hS => ?_)
  have hP : va_P D vwCl (wF [gB cL b0 b1 ((vp_updL (vp_updL (vp_updL x0.1 0 (x1.1 0)) 1 (x1.1 1)) 2 (x1.1 2)), x0.2), gB cL b2 b3 x1]) H := hP
  have hD : va_D A (wF [gB cL b0 b1 ((vp_updL (vp_updL (vp_updL x0.1 0 (x1.1 0)) 1 (x1.1 1)) 2 (x1.1 2)), x0.2), gB cL b2 b3 x1]) := hD
  refine lv_iinc (v := (3 : Int32)) (lv' := [(2, .int (3 : Int32)), (0, .ref b0), (1, .ref b2)]) hx hb dX1_copyFrom_32 hl (k := 0) rfl (by decide) (by decide) rfl (fun ls hl => ?_)
  refine lv_goto (tgt := 2) hx hb dX1_copyFrom_35 (by decide) ?_
  refine lv_iload_n hx hb dX1_copyFrom_2 rfl (lv_at hl 0 rfl) ?_
  refine lv_aload_n hx hb dX1_copyFrom_3 rfl (lv_at hl 1 rfl) ?_
  refine va_get (D := D) (ci := 1) (v := .ref b1) (C := RX1) (T := TX1) (N := 2) hx hb hts hinX1 hown hQ.1 hP 0 rfl rfl 0 (by decide) (hts (.fieldLink RX1 11 "HeatPumpPlant$Buffer" "energies" "[J") (List.mem_of_getElem? (i := 1) rfl)) (fun _ h9 => h9) rfl dX1_copyFrom_4 ?_
  refine va_alen (v := (4 : Int32)) hx hb hQ.1 hP 1 1 rfl rfl rfl dX1_copyFrom_7 ?_
  refine lv_icmp_ge (tgt := 38) hx hb dX1_copyFrom_8 (by decide) (fun c7 => absurd c7 (by decide)) (fun _ => ?_)
  refine lv_iload_n hx hb dX1_copyFrom_11 rfl (lv_at hl 0 rfl) ?_
  refine lv_aload_n hx hb dX1_copyFrom_12 rfl (lv_at hl 2 rfl) ?_
  refine va_get (D := D) (ci := 1) (v := .ref b3) (C := RX1) (T := TX1) (N := 2) hx hb hts hinX1 hown hQ.1 hP 2 rfl rfl 0 (by decide) (hts (.fieldLink RX1 11 "HeatPumpPlant$Buffer" "energies" "[J") (List.mem_of_getElem? (i := 1) rfl)) (fun _ h9 => h9) rfl dX1_copyFrom_13 ?_
  refine va_alen (v := (4 : Int32)) hx hb hQ.1 hP 3 1 rfl rfl rfl dX1_copyFrom_16 ?_
  refine lv_icmp_ge (tgt := 38) hx hb dX1_copyFrom_17 (by decide) (fun c8 => absurd c8 (by decide)) (fun _ => ?_)
  refine lv_aload_n hx hb dX1_copyFrom_20 rfl (lv_at hl 1 rfl) ?_
  refine va_get (D := D) (ci := 1) (v := .ref b1) (C := RX1) (T := TX1) (N := 2) hx hb hts hinX1 hown hQ.1 hP 0 rfl rfl 0 (by decide) (hts (.fieldLink RX1 11 "HeatPumpPlant$Buffer" "energies" "[J") (List.mem_of_getElem? (i := 1) rfl)) (fun _ h9 => h9) rfl dX1_copyFrom_21 ?_
  refine lv_iload_n hx hb dX1_copyFrom_24 rfl (lv_at hl 0 rfl) ?_
  refine lv_aload_n hx hb dX1_copyFrom_25 rfl (lv_at hl 2 rfl) ?_
  refine va_get (D := D) (ci := 1) (v := .ref b3) (C := RX1) (T := TX1) (N := 2) hx hb hts hinX1 hown hQ.1 hP 2 rfl rfl 0 (by decide) (hts (.fieldLink RX1 11 "HeatPumpPlant$Buffer" "energies" "[J") (List.mem_of_getElem? (i := 1) rfl)) (fun _ h9 => h9) rfl dX1_copyFrom_26 ?_
  refine lv_iload_n hx hb dX1_copyFrom_29 rfl (lv_at hl 0 rfl) ?_
  refine w_lald (f := x1.1) (j := 3) hx hb hQ.1 hP 3 1 rfl rfl (rfl : (3 : Int32) = nI 3) (by omega) (by decide) dX1_copyFrom_30 ?_
  refine w_last (f := (vp_updL (vp_updL (vp_updL x0.1 0 (x1.1 0)) 1 (x1.1 1)) 2 (x1.1 2))) (j := 3) hx hb hQ.1 hP hD hS 1 1 rfl rfl (rfl : (3 : Int32) = nI 3) (by omega) (by decide) dX1_copyFrom_31 (fun H locs hP hD hS => ?_)
  have hP : va_P D vwCl (wF [gB cL b0 b1 ((vp_updL (vp_updL (vp_updL (vp_updL x0.1 0 (x1.1 0)) 1 (x1.1 1)) 2 (x1.1 2)) 3 (x1.1 3)), x0.2), gB cL b2 b3 x1]) H := hP
  have hD : va_D A (wF [gB cL b0 b1 ((vp_updL (vp_updL (vp_updL (vp_updL x0.1 0 (x1.1 0)) 1 (x1.1 1)) 2 (x1.1 2)) 3 (x1.1 3)), x0.2), gB cL b2 b3 x1]) := hD
  refine lv_iinc (v := (4 : Int32)) (lv' := [(2, .int (4 : Int32)), (0, .ref b0), (1, .ref b2)]) hx hb dX1_copyFrom_32 hl (k := 0) rfl (by decide) (by decide) rfl (fun ls hl => ?_)
  refine lv_goto (tgt := 2) hx hb dX1_copyFrom_35 (by decide) ?_
  refine lv_iload_n hx hb dX1_copyFrom_2 rfl (lv_at hl 0 rfl) ?_
  refine lv_aload_n hx hb dX1_copyFrom_3 rfl (lv_at hl 1 rfl) ?_
  refine va_get (D := D) (ci := 1) (v := .ref b1) (C := RX1) (T := TX1) (N := 2) hx hb hts hinX1 hown hQ.1 hP 0 rfl rfl 0 (by decide) (hts (.fieldLink RX1 11 "HeatPumpPlant$Buffer" "energies" "[J") (List.mem_of_getElem? (i := 1) rfl)) (fun _ h9 => h9) rfl dX1_copyFrom_4 ?_
  refine va_alen (v := (4 : Int32)) hx hb hQ.1 hP 1 1 rfl rfl rfl dX1_copyFrom_7 ?_
  refine lv_icmp_ge (tgt := 38) hx hb dX1_copyFrom_8 (by decide) (fun _ => ?_) (fun c9 => absurd c9 (by decide))
  have hs9 : sim (wF [gB cL b0 b1 ((vp_updL (vp_updL (vp_updL (vp_updL x0.1 0 (x1.1 0)) 1 (x1.1 1)) 2 (x1.1 2)) 3 (x1.1 3)), x0.2), gB cL b2 b3 x1]) (wF [gB cL b0 b1 (x1.1, x0.2), gB cL b2 b3 x1]) := sim.a (sim.a (sim.r (w := [(b0, .inr (1, [.ref b1, .int x0.2]))])) (sim.l (fun j hj => by rcases (show j = 0 ∨ j = 1 ∨ j = 2 ∨ j = 3 by omega) with rfl | rfl | rfl | rfl <;> rfl))) (sim.a (sim.r) (sim.r))
  have hP : va_P D vwCl (wF [gB cL b0 b1 (x1.1, x0.2), gB cL b2 b3 x1]) H := hs9.1 _ _ _ hP
  have hD : va_D A (wF [gB cL b0 b1 (x1.1, x0.2), gB cL b2 b3 x1]) := hs9.d hD
  refine lv_aload_n hx hb dX1_copyFrom_38 rfl (lv_at hl 1 rfl) ?_
  refine lv_aload_n hx hb dX1_copyFrom_39 rfl (lv_at hl 2 rfl) ?_
  refine va_get (D := D) (ci := 1) (v := .int x1.2) (C := RX1) (T := TX1) (N := 2) hx hb hts hinX1 hown hQ.1 hP 2 rfl rfl 1 (by decide) (hts (.fieldLink RX1 19 "HeatPumpPlant$Buffer" "capacity" "I") (List.mem_of_getElem? (i := 2) rfl)) (fun _ h9 => h9) rfl dX1_copyFrom_40 ?_
  refine va_put (D := D) (ci := 1) (v := .int x1.2) (ty := .int) (C := RX1) (T := TX1) (N := 2) hx hb hts hinX1 tyX1 tyX1_ok nmX1 hown hQ.1 hP hD hS 0 rfl rfl 1 (by decide) (hts (.fieldLink RX1 19 "HeatPumpPlant$Buffer" "capacity" "I") (List.mem_of_getElem? (i := 2) rfl)) (fun _ h9 => h9) rfl (by decide +kernel) rfl rfl (Nat.le_of_ble_eq_true rfl) dX1_copyFrom_43 (fun H locs hP hD hS => ?_)
  have hP : va_P D vwCl (wF [gB cL b0 b1 (x1.1, x1.2), gB cL b2 b3 x1]) H := hP
  have hD : va_D A (wF [gB cL b0 b1 (x1.1, x1.2), gB cL b2 b3 x1]) := hD
  exact W.vret hx hb hr (fun t ht hW => ⟨⟨(x1.1, x1.2), rfl, (rfl), by rw [ht]; exact hP, hD⟩, hS.F ht⟩) hS.2.2 dX1_copyFrom_46
def F1_refill (x0 : SB) (p1 : Int32) (p2 : Int32) : SB := ((fun _ => p1.toInt64 * p2.toInt64), p1)
set_option maxHeartbeats 4000000 in
set_option maxRecDepth 100000 in
theorem m1_refill (l : Launch) (D : va_G) (cI cL cP : ClassId) (b0 : Nat) (b1 : Nat) (x0 : SB) (p1 : Int32) (p2 : Int32) (sz : Nat) : Met l yX1_refill wsX1_refill ({ frames := 0, cells := 0, slots := 0, locals := 0 }) (va_Pc [.ref b0, .int p1, .int p2] (pM D cI cL cP sz (wF [gB cL b0 b1 x0]))) (va_Qv (fun (w : SB) => w = F1_refill x0 p1 p2) (qW D (va_A (wF [gB cL b0 b1 x0]) sz) (fun w : SB => (wF [gB cL b0 b1 w]))) (va_A (wF [gB cL b0 b1 x0]) sz)) 0 0 (va_A (wF [gB cL b0 b1 x0]) sz) := by
  refine Met.ofW (cc := cX1_refill) (maxL := 4) (ret := none) (by decide) rfl ?_
  intro p e s m args below meth c s₁ B hml hv
  obtain ⟨rfl, hsz, hP, hQ, hD0⟩ := hv
  have hx := B.exec
  have hb := B.bytes
  have hr := B.returns
  have hts := atoms_spec (ws := wsX1_refill) B.pre
  have hown : s.vm.findClass RX1 = some m.cls := findClass_of_methodNamed B.named
  have hlocks := B.notSynchronized
  subst hsz
  have hD := hD0.self (sz := s.heap.size)
  generalize hAe : va_A (wF [gB cL b0 b1 x0]) s.heap.size = A at hD ⊢
  have hA : ∀ q : Nat, s.heap.size ≤ q → A q := fun q h => by rw [← hAe]; exact Or.inr h
  have hS : va_S A s.heap s.heap [] := va_S.rf
  have hP : va_P D vwCl (wF [gB cL b0 b1 x0]) s.heap := hP
  have hl := lv_entry ([.ref b0, .int p1, .int p2]) (n := 4) (Nat.le_of_ble_eq_true rfl)
  rw [lg_entry_eq]
  generalize (lg_sl ([.ref b0, .int p1, .int p2]) ++ List.replicate (4 - (lg_sl ([.ref b0, .int p1, .int p2])).length) Slot.unset).toArray = ls at hl ⊢
  have hl : lv_has ls 4 [(0, .ref b0), (1, .int p1), (2, .int p2)] := hl
  have hinX1 : ∀ w ∈ wsX10, w ∈ wsX1_refill := fun _ h => List.mem_cons_of_mem _ (List.mem_append_right _ h)
  refine lv_aload_n hx hb dX1_refill_0 rfl (lv_at hl 0 rfl) ?_
  refine lv_iload_n hx hb dX1_refill_1 rfl (lv_at hl 1 rfl) ?_
  refine va_put (D := D) (ci := 1) (v := .int p1) (ty := .int) (C := RX1) (T := TX1) (N := 2) hx hb hts hinX1 tyX1 tyX1_ok nmX1 hown hQ.1 hP hD hS 0 rfl rfl 1 (by decide) (hts (.fieldLink RX1 19 "HeatPumpPlant$Buffer" "capacity" "I") (List.mem_of_getElem? (i := 1) rfl)) (fun _ h9 => h9) rfl (by decide +kernel) rfl rfl (Nat.le_of_ble_eq_true rfl) dX1_refill_2 (fun H locs hP hD hS => ?_)
  have hP : va_P D vwCl (wF [gB cL b0 b1 (x0.1, p1)]) H := hP
  have hD : va_D A (wF [gB cL b0 b1 (x0.1, p1)]) := hD
  refine lv_iconst (v := (0 : Int32)) hx hb dX1_refill_5 (by decide) ?_
  refine lv_istore_n (lv' := [(3, .int (0 : Int32)), (0, .ref b0), (1, .int p1), (2, .int p2)]) hx hb dX1_refill_6 rfl hl (by decide) rfl (fun ls hl => ?_)
  refine lv_iload_n hx hb dX1_refill_7 rfl (lv_at hl 0 rfl) ?_
  refine lv_aload_n hx hb dX1_refill_8 rfl (lv_at hl 1 rfl) ?_
  refine va_get (D := D) (ci := 1) (v := .ref b1) (C := RX1) (T := TX1) (N := 2) hx hb hts hinX1 hown hQ.1 hP 0 rfl rfl 0 (by decide) (hts (.fieldLink RX1 11 "HeatPumpPlant$Buffer" "energies" "[J") (List.mem_of_getElem? (i := 2) rfl)) (fun _ h9 => h9) rfl dX1_refill_9 ?_
  refine va_alen (v := (4 : Int32)) hx hb hQ.1 hP 1 1 rfl rfl rfl dX1_refill_12 ?_
  refine lv_icmp_ge (tgt := 33) hx hb dX1_refill_13 (by decide) (fun c1 => absurd c1 (by decide)) (fun _ => ?_)
  refine lv_aload_n hx hb dX1_refill_16 rfl (lv_at hl 1 rfl) ?_
  refine va_get (D := D) (ci := 1) (v := .ref b1) (C := RX1) (T := TX1) (N := 2) hx hb hts hinX1 hown hQ.1 hP 0 rfl rfl 0 (by decide) (hts (.fieldLink RX1 11 "HeatPumpPlant$Buffer" "energies" "[J") (List.mem_of_getElem? (i := 2) rfl)) (fun _ h9 => h9) rfl dX1_refill_17 ?_
  refine lv_iload_n hx hb dX1_refill_20 rfl (lv_at hl 0 rfl) ?_
  refine lv_iload_n hx hb dX1_refill_21 rfl (lv_at hl 2 rfl) ?_
  refine lv_i2l hx hb dX1_refill_22 rfl ?_
  refine lv_iload_n hx hb dX1_refill_23 rfl (lv_at hl 3 rfl) ?_
  refine lv_i2l hx hb dX1_refill_24 rfl ?_
  refine lv_lmul hx hb dX1_refill_25 ?_
  refine w_last (f := x0.1) (j := 0) hx hb hQ.1 hP hD hS 1 1 rfl rfl (rfl : (0 : Int32) = nI 0) (by omega) (by decide) dX1_refill_26 (fun H locs hP hD hS => ?_)
  have hP : va_P D vwCl (wF [gB cL b0 b1 ((vp_updL x0.1 0 (p1.toInt64 * p2.toInt64)), p1)]) H := hP
  have hD : va_D A (wF [gB cL b0 b1 ((vp_updL x0.1 0 (p1.toInt64 * p2.toInt64)), p1)]) := hD
  refine lv_iinc (v := (1 : Int32)) (lv' := [(3, .int (1 : Int32)), (0, .ref b0), (1, .int p1), (2, .int p2)]) hx hb dX1_refill_27 hl (k := 0) rfl (by decide) (by decide) rfl (fun ls hl => ?_)
  refine lv_goto (tgt := 7) hx hb dX1_refill_30 (by decide) ?_
  refine lv_iload_n hx hb dX1_refill_7 rfl (lv_at hl 0 rfl) ?_
  refine lv_aload_n hx hb dX1_refill_8 rfl (lv_at hl 1 rfl) ?_
  refine va_get (D := D) (ci := 1) (v := .ref b1) (C := RX1) (T := TX1) (N := 2) hx hb hts hinX1 hown hQ.1 hP 0 rfl rfl 0 (by decide) (hts (.fieldLink RX1 11 "HeatPumpPlant$Buffer" "energies" "[J") (List.mem_of_getElem? (i := 2) rfl)) (fun _ h9 => h9) rfl dX1_refill_9 ?_
  refine va_alen (v := (4 : Int32)) hx hb hQ.1 hP 1 1 rfl rfl rfl dX1_refill_12 ?_
  refine lv_icmp_ge (tgt := 33) hx hb dX1_refill_13 (by decide) (fun c2 => absurd c2 (by decide)) (fun _ => ?_)
  refine lv_aload_n hx hb dX1_refill_16 rfl (lv_at hl 1 rfl) ?_
  refine va_get (D := D) (ci := 1) (v := .ref b1) (C := RX1) (T := TX1) (N := 2) hx hb hts hinX1 hown hQ.1 hP 0 rfl rfl 0 (by decide) (hts (.fieldLink RX1 11 "HeatPumpPlant$Buffer" "energies" "[J") (List.mem_of_getElem? (i := 2) rfl)) (fun _ h9 => h9) rfl dX1_refill_17 ?_
  refine lv_iload_n hx hb dX1_refill_20 rfl (lv_at hl 0 rfl) ?_
  refine lv_iload_n hx hb dX1_refill_21 rfl (lv_at hl 2 rfl) ?_
  refine lv_i2l hx hb dX1_refill_22 rfl ?_
  refine lv_iload_n hx hb dX1_refill_23 rfl (lv_at hl 3 rfl) ?_
  refine lv_i2l hx hb dX1_refill_24 rfl ?_
  refine lv_lmul hx hb dX1_refill_25 ?_
  refine w_last (f := (vp_updL x0.1 0 (p1.toInt64 * p2.toInt64))) (j := 1) hx hb hQ.1 hP hD hS 1 1 rfl rfl (rfl : (1 : Int32) = nI 1) (by omega) (by decide) dX1_refill_26 (fun H locs hP hD hS => ?_)
  have hP : va_P D vwCl (wF [gB cL b0 b1 ((vp_updL (vp_updL x0.1 0 (p1.toInt64 * p2.toInt64)) 1 (p1.toInt64 * p2.toInt64)), p1)]) H := hP
  have hD : va_D A (wF [gB cL b0 b1 ((vp_updL (vp_updL x0.1 0 (p1.toInt64 * p2.toInt64)) 1 (p1.toInt64 * p2.toInt64)), p1)]) := hD
  refine lv_iinc (v := (2 : Int32)) (lv' := [(3, .int (2 : Int32)), (0, .ref b0), (1, .int p1), (2, .int p2)]) hx hb dX1_refill_27 hl (k := 0) rfl (by decide) (by decide) rfl (fun ls hl => ?_)
  refine lv_goto (tgt := 7) hx hb dX1_refill_30 (by decide) ?_
  refine lv_iload_n hx hb dX1_refill_7 rfl (lv_at hl 0 rfl) ?_
  refine lv_aload_n hx hb dX1_refill_8 rfl (lv_at hl 1 rfl) ?_
  refine va_get (D := D) (ci := 1) (v := .ref b1) (C := RX1) (T := TX1) (N := 2) hx hb hts hinX1 hown hQ.1 hP 0 rfl rfl 0 (by decide) (hts (.fieldLink RX1 11 "HeatPumpPlant$Buffer" "energies" "[J") (List.mem_of_getElem? (i := 2) rfl)) (fun _ h9 => h9) rfl dX1_refill_9 ?_
  refine va_alen (v := (4 : Int32)) hx hb hQ.1 hP 1 1 rfl rfl rfl dX1_refill_12 ?_
  refine lv_icmp_ge (tgt := 33) hx hb dX1_refill_13 (by decide) (fun c3 => absurd c3 (by decide)) (fun _ => ?_)
  refine lv_aload_n hx hb dX1_refill_16 rfl (lv_at hl 1 rfl) ?_
  refine va_get (D := D) (ci := 1) (v := .ref b1) (C := RX1) (T := TX1) (N := 2) hx hb hts hinX1 hown hQ.1 hP 0 rfl rfl 0 (by decide) (hts (.fieldLink RX1 11 "HeatPumpPlant$Buffer" "energies" "[J") (List.mem_of_getElem? (i := 2) rfl)) (fun _ h9 => h9) rfl dX1_refill_17 ?_
  refine lv_iload_n hx hb dX1_refill_20 rfl (lv_at hl 0 rfl) ?_
  refine lv_iload_n hx hb dX1_refill_21 rfl (lv_at hl 2 rfl) ?_
  refine lv_i2l hx hb dX1_refill_22 rfl ?_
  refine lv_iload_n hx hb dX1_refill_23 rfl (lv_at hl 3 rfl) ?_
  refine lv_i2l hx hb dX1_refill_24 rfl ?_
  refine lv_lmul hx hb dX1_refill_25 ?_
  refine w_last (f := (vp_updL (vp_updL x0.1 0 (p1.toInt64 * p2.toInt64)) 1 (p1.toInt64 * p2.toInt64))) (j := 2) hx hb hQ.1 hP hD hS 1 1 rfl rfl (rfl : (2 : Int32) = nI 2) (by omega) (by decide) dX1_refill_26 (fun H locs hP hD hS => ?_)
  have hP : va_P D vwCl (wF [gB cL b0 b1 ((vp_updL (vp_updL (vp_updL x0.1 0 (p1.toInt64 * p2.toInt64)) 1 (p1.toInt64 * p2.toInt64)) 2 (p1.toInt64 * p2.toInt64)), p1)]) H := hP
  have hD : va_D A (wF [gB cL b0 b1 ((vp_updL (vp_updL (vp_updL x0.1 0 (p1.toInt64 * p2.toInt64)) 1 (p1.toInt64 * p2.toInt64)) 2 (p1.toInt64 * p2.toInt64)), p1)]) := hD
  refine lv_iinc (v := (3 : Int32)) (lv' := [(3, .int (3 : Int32)), (0, .ref b0), (1, .int p1), (2, .int p2)]) hx hb dX1_refill_27 hl (k := 0) rfl (by decide) (by decide) rfl (fun ls hl => ?_)
  refine lv_goto (tgt := 7) hx hb dX1_refill_30 (by decide) ?_
  refine lv_iload_n hx hb dX1_refill_7 rfl (lv_at hl 0 rfl) ?_
  refine lv_aload_n hx hb dX1_refill_8 rfl (lv_at hl 1 rfl) ?_
  refine va_get (D := D) (ci := 1) (v := .ref b1) (C := RX1) (T := TX1) (N := 2) hx hb hts hinX1 hown hQ.1 hP 0 rfl rfl 0 (by decide) (hts (.fieldLink RX1 11 "HeatPumpPlant$Buffer" "energies" "[J") (List.mem_of_getElem? (i := 2) rfl)) (fun _ h9 => h9) rfl dX1_refill_9 ?_
  refine va_alen (v := (4 : Int32)) hx hb hQ.1 hP 1 1 rfl rfl rfl dX1_refill_12 ?_
  refine lv_icmp_ge (tgt := 33) hx hb dX1_refill_13 (by decide) (fun c4 => absurd c4 (by decide)) (fun _ => ?_)
  refine lv_aload_n hx hb dX1_refill_16 rfl (lv_at hl 1 rfl) ?_
  refine va_get (D := D) (ci := 1) (v := .ref b1) (C := RX1) (T := TX1) (N := 2) hx hb hts hinX1 hown hQ.1 hP 0 rfl rfl 0 (by decide) (hts (.fieldLink RX1 11 "HeatPumpPlant$Buffer" "energies" "[J") (List.mem_of_getElem? (i := 2) rfl)) (fun _ h9 => h9) rfl dX1_refill_17 ?_
  refine lv_iload_n hx hb dX1_refill_20 rfl (lv_at hl 0 rfl) ?_
  refine lv_iload_n hx hb dX1_refill_21 rfl (lv_at hl 2 rfl) ?_
  refine lv_i2l hx hb dX1_refill_22 rfl ?_
  refine lv_iload_n hx hb dX1_refill_23 rfl (lv_at hl 3 rfl) ?_
  refine lv_i2l hx hb dX1_refill_24 rfl ?_
  refine lv_lmul hx hb dX1_refill_25 ?_
  refine w_last (f := (vp_updL (vp_updL (vp_updL x0.1 0 (p1.toInt64 * p2.toInt64)) 1 (p1.toInt64 * p2.toInt64)) 2 (p1.toInt64 * p2.toInt64))) (j := 3) hx hb hQ.1 hP hD hS 1 1 rfl rfl (rfl : (3 : Int32) = nI 3) (by omega) (by decide) dX1_refill_26 (fun H locs hP hD hS => ?_)
  have hP : va_P D vwCl (wF [gB cL b0 b1 ((vp_updL (vp_updL (vp_updL (vp_updL x0.1 0 (p1.toInt64 * p2.toInt64)) 1 (p1.toInt64 * p2.toInt64)) 2 (p1.toInt64 * p2.toInt64)) 3 (p1.toInt64 * p2.toInt64)), p1)]) H := hP
  have hD : va_D A (wF [gB cL b0 b1 ((vp_updL (vp_updL (vp_updL (vp_updL x0.1 0 (p1.toInt64 * p2.toInt64)) 1 (p1.toInt64 * p2.toInt64)) 2 (p1.toInt64 * p2.toInt64)) 3 (p1.toInt64 * p2.toInt64)), p1)]) := hD
  refine lv_iinc (v := (4 : Int32)) (lv' := [(3, .int (4 : Int32)), (0, .ref b0), (1, .int p1), (2, .int p2)]) hx hb dX1_refill_27 hl (k := 0) rfl (by decide) (by decide) rfl (fun ls hl => ?_)
  refine lv_goto (tgt := 7) hx hb dX1_refill_30 (by decide) ?_
  refine lv_iload_n hx hb dX1_refill_7 rfl (lv_at hl 0 rfl) ?_
  refine lv_aload_n hx hb dX1_refill_8 rfl (lv_at hl 1 rfl) ?_
  refine va_get (D := D) (ci := 1) (v := .ref b1) (C := RX1) (T := TX1) (N := 2) hx hb hts hinX1 hown hQ.1 hP 0 rfl rfl 0 (by decide) (hts (.fieldLink RX1 11 "HeatPumpPlant$Buffer" "energies" "[J") (List.mem_of_getElem? (i := 2) rfl)) (fun _ h9 => h9) rfl dX1_refill_9 ?_
  refine va_alen (v := (4 : Int32)) hx hb hQ.1 hP 1 1 rfl rfl rfl dX1_refill_12 ?_
  refine lv_icmp_ge (tgt := 33) hx hb dX1_refill_13 (by decide) (fun _ => ?_) (fun c5 => absurd c5 (by decide))
  have hs9 : sim (wF [gB cL b0 b1 ((vp_updL (vp_updL (vp_updL (vp_updL x0.1 0 (p1.toInt64 * p2.toInt64)) 1 (p1.toInt64 * p2.toInt64)) 2 (p1.toInt64 * p2.toInt64)) 3 (p1.toInt64 * p2.toInt64)), p1)]) (wF [gB cL b0 b1 ((fun _ => p1.toInt64 * p2.toInt64), p1)]) := sim.a (sim.a (sim.r (w := [(b0, .inr (1, [.ref b1, .int p1]))])) (sim.l (fun j hj => by rcases (show j = 0 ∨ j = 1 ∨ j = 2 ∨ j = 3 by omega) with rfl | rfl | rfl | rfl <;> rfl))) (sim.r)
  have hP : va_P D vwCl (wF [gB cL b0 b1 ((fun _ => p1.toInt64 * p2.toInt64), p1)]) H := hs9.1 _ _ _ hP
  have hD : va_D A (wF [gB cL b0 b1 ((fun _ => p1.toInt64 * p2.toInt64), p1)]) := hs9.d hD
  exact W.vret hx hb hr (fun t ht hW => ⟨⟨((fun _ => p1.toInt64 * p2.toInt64), p1), rfl, (rfl), by rw [ht]; exact hP, hD⟩, hS.F ht⟩) hS.2.2 dX1_refill_33
def F1_energyOfAll (x0 : SB) : Int64 := (((((0 : Int64) + (x0.1 0)) + (x0.1 1)) + (x0.1 2)) + (x0.1 3))
set_option maxHeartbeats 4000000 in
set_option maxRecDepth 100000 in
theorem m1_energyOfAll (l : Launch) (D : va_G) (cI cL cP : ClassId) (b0 : Nat) (b1 : Nat) (x0 : SB) (H0 : Heap) : Met l yX1_energyOfAll wsX1_energyOfAll ({ frames := 0, cells := 0, slots := 0, locals := 0 }) (va_Pc [.ref b0] (pR D cI cL cP H0 (wF [gB cL b0 b1 x0]))) (va_Ql (fun (r : Int64) (_ : Unit) => r = F1_energyOfAll x0) (qE H0) nF) 0 0 nF := by
  refine Met.ofW (cc := cX1_energyOfAll) (maxL := 4) (ret := (some .long)) (by decide) rfl ?_
  intro p e s m args below meth c s₁ B hml hv
  obtain ⟨rfl, rfl, hP, hQ⟩ := hv
  have hx := B.exec
  have hb := B.bytes
  have hr := B.returns
  have hts := atoms_spec (ws := wsX1_energyOfAll) B.pre
  have hown : s.vm.findClass RX1 = some m.cls := findClass_of_methodNamed B.named
  have hlocks := B.notSynchronized
  have hS : va_S nF s.heap s.heap [] := va_S.rf
  have hl := lv_entry ([.ref b0]) (n := 4) (Nat.le_of_ble_eq_true rfl)
  rw [lg_entry_eq]
  generalize (lg_sl ([.ref b0]) ++ List.replicate (4 - (lg_sl ([.ref b0])).length) Slot.unset).toArray = ls at hl ⊢
  have hl : lv_has ls 4 [(0, .ref b0)] := hl
  have hinX1 : ∀ w ∈ wsX10, w ∈ wsX1_energyOfAll := fun _ h => List.mem_cons_of_mem _ (List.mem_append_right _ h)
  refine lv_lconst (v := (0 : Int64)) hx hb dX1_energyOfAll_0 rfl ?_
  refine lv_lstore_n (lv' := [(1, .long (0 : Int64)), (0, .ref b0)]) hx hb dX1_energyOfAll_1 rfl hl (by decide) rfl (fun ls hl => ?_)
  refine lv_iconst (v := (0 : Int32)) hx hb dX1_energyOfAll_2 (by decide) ?_
  refine lv_istore_n (lv' := [(3, .int (0 : Int32)), (1, .long (0 : Int64)), (0, .ref b0)]) hx hb dX1_energyOfAll_3 rfl hl (by decide) rfl (fun ls hl => ?_)
  refine lv_iload_n hx hb dX1_energyOfAll_4 rfl (lv_at hl 0 rfl) ?_
  refine lv_aload_n hx hb dX1_energyOfAll_5 rfl (lv_at hl 2 rfl) ?_
  refine va_get (D := D) (ci := 1) (v := .ref b1) (C := RX1) (T := TX1) (N := 2) hx hb hts hinX1 hown hQ.1 hP 0 rfl rfl 0 (by decide) (hts (.fieldLink RX1 11 "HeatPumpPlant$Buffer" "energies" "[J") (List.mem_of_getElem? (i := 1) rfl)) (fun _ h9 => h9) rfl dX1_energyOfAll_6 ?_
  refine va_alen (v := (4 : Int32)) hx hb hQ.1 hP 1 1 rfl rfl rfl dX1_energyOfAll_9 ?_
  refine lv_icmp_ge (tgt := 28) hx hb dX1_energyOfAll_10 (by decide) (fun c1 => absurd c1 (by decide)) (fun _ => ?_)
  refine lv_lload_n hx hb dX1_energyOfAll_13 rfl (lv_at hl 1 rfl) ?_
  refine lv_aload_n hx hb dX1_energyOfAll_14 rfl (lv_at hl 2 rfl) ?_
  refine va_get (D := D) (ci := 1) (v := .ref b1) (C := RX1) (T := TX1) (N := 2) hx hb hts hinX1 hown hQ.1 hP 0 rfl rfl 0 (by decide) (hts (.fieldLink RX1 11 "HeatPumpPlant$Buffer" "energies" "[J") (List.mem_of_getElem? (i := 1) rfl)) (fun _ h9 => h9) rfl dX1_energyOfAll_15 ?_
  refine lv_iload_n hx hb dX1_energyOfAll_18 rfl (lv_at hl 0 rfl) ?_
  refine w_lald (f := x0.1) (j := 0) hx hb hQ.1 hP 1 1 rfl rfl (rfl : (0 : Int32) = nI 0) (by omega) (by decide) dX1_energyOfAll_19 ?_
  refine lv_ladd hx hb dX1_energyOfAll_20 ?_
  refine lv_lstore_n (lv' := [(1, .long ((0 : Int64) + (x0.1 0))), (3, .int (0 : Int32)), (0, .ref b0)]) hx hb dX1_energyOfAll_21 rfl hl (by decide) rfl (fun ls hl => ?_)
  refine lv_iinc (v := (1 : Int32)) (lv' := [(3, .int (1 : Int32)), (1, .long ((0 : Int64) + (x0.1 0))), (0, .ref b0)]) hx hb dX1_energyOfAll_22 hl (k := 1) rfl (by decide) (by decide) rfl (fun ls hl => ?_)
  refine lv_goto (tgt := 4) hx hb dX1_energyOfAll_25 (by decide) ?_
  refine lv_iload_n hx hb dX1_energyOfAll_4 rfl (lv_at hl 0 rfl) ?_
  refine lv_aload_n hx hb dX1_energyOfAll_5 rfl (lv_at hl 2 rfl) ?_
  refine va_get (D := D) (ci := 1) (v := .ref b1) (C := RX1) (T := TX1) (N := 2) hx hb hts hinX1 hown hQ.1 hP 0 rfl rfl 0 (by decide) (hts (.fieldLink RX1 11 "HeatPumpPlant$Buffer" "energies" "[J") (List.mem_of_getElem? (i := 1) rfl)) (fun _ h9 => h9) rfl dX1_energyOfAll_6 ?_
  refine va_alen (v := (4 : Int32)) hx hb hQ.1 hP 1 1 rfl rfl rfl dX1_energyOfAll_9 ?_
  refine lv_icmp_ge (tgt := 28) hx hb dX1_energyOfAll_10 (by decide) (fun c2 => absurd c2 (by decide)) (fun _ => ?_)
  refine lv_lload_n hx hb dX1_energyOfAll_13 rfl (lv_at hl 1 rfl) ?_
  refine lv_aload_n hx hb dX1_energyOfAll_14 rfl (lv_at hl 2 rfl) ?_
  refine va_get (D := D) (ci := 1) (v := .ref b1) (C := RX1) (T := TX1) (N := 2) hx hb hts hinX1 hown hQ.1 hP 0 rfl rfl 0 (by decide) (hts (.fieldLink RX1 11 "HeatPumpPlant$Buffer" "energies" "[J") (List.mem_of_getElem? (i := 1) rfl)) (fun _ h9 => h9) rfl dX1_energyOfAll_15 ?_
  refine lv_iload_n hx hb dX1_energyOfAll_18 rfl (lv_at hl 0 rfl) ?_
  refine w_lald (f := x0.1) (j := 1) hx hb hQ.1 hP 1 1 rfl rfl (rfl : (1 : Int32) = nI 1) (by omega) (by decide) dX1_energyOfAll_19 ?_
  refine lv_ladd hx hb dX1_energyOfAll_20 ?_
  refine lv_lstore_n (lv' := [(1, .long (((0 : Int64) + (x0.1 0)) + (x0.1 1))), (3, .int (1 : Int32)), (0, .ref b0)]) hx hb dX1_energyOfAll_21 rfl hl (by decide) rfl (fun ls hl => ?_)
  refine lv_iinc (v := (2 : Int32)) (lv' := [(3, .int (2 : Int32)), (1, .long (((0 : Int64) + (x0.1 0)) + (x0.1 1))), (0, .ref b0)]) hx hb dX1_energyOfAll_22 hl (k := 1) rfl (by decide) (by decide) rfl (fun ls hl => ?_)
  refine lv_goto (tgt := 4) hx hb dX1_energyOfAll_25 (by decide) ?_
  refine lv_iload_n hx hb dX1_energyOfAll_4 rfl (lv_at hl 0 rfl) ?_
  refine lv_aload_n hx hb dX1_energyOfAll_5 rfl (lv_at hl 2 rfl) ?_
  refine va_get (D := D) (ci := 1) (v := .ref b1) (C := RX1) (T := TX1) (N := 2) hx hb hts hinX1 hown hQ.1 hP 0 rfl rfl 0 (by decide) (hts (.fieldLink RX1 11 "HeatPumpPlant$Buffer" "energies" "[J") (List.mem_of_getElem? (i := 1) rfl)) (fun _ h9 => h9) rfl dX1_energyOfAll_6 ?_
  refine va_alen (v := (4 : Int32)) hx hb hQ.1 hP 1 1 rfl rfl rfl dX1_energyOfAll_9 ?_
  refine lv_icmp_ge (tgt := 28) hx hb dX1_energyOfAll_10 (by decide) (fun c3 => absurd c3 (by decide)) (fun _ => ?_)
  refine lv_lload_n hx hb dX1_energyOfAll_13 rfl (lv_at hl 1 rfl) ?_
  refine lv_aload_n hx hb dX1_energyOfAll_14 rfl (lv_at hl 2 rfl) ?_
  refine va_get (D := D) (ci := 1) (v := .ref b1) (C := RX1) (T := TX1) (N := 2) hx hb hts hinX1 hown hQ.1 hP 0 rfl rfl 0 (by decide) (hts (.fieldLink RX1 11 "HeatPumpPlant$Buffer" "energies" "[J") (List.mem_of_getElem? (i := 1) rfl)) (fun _ h9 => h9) rfl dX1_energyOfAll_15 ?_
  refine lv_iload_n hx hb dX1_energyOfAll_18 rfl (lv_at hl 0 rfl) ?_
  refine w_lald (f := x0.1) (j := 2) hx hb hQ.1 hP 1 1 rfl rfl (rfl : (2 : Int32) = nI 2) (by omega) (by decide) dX1_energyOfAll_19 ?_
  refine lv_ladd hx hb dX1_energyOfAll_20 ?_
  refine lv_lstore_n (lv' := [(1, .long ((((0 : Int64) + (x0.1 0)) + (x0.1 1)) + (x0.1 2))), (3, .int (2 : Int32)), (0, .ref b0)]) hx hb dX1_energyOfAll_21 rfl hl (by decide) rfl (fun ls hl => ?_)
  refine lv_iinc (v := (3 : Int32)) (lv' := [(3, .int (3 : Int32)), (1, .long ((((0 : Int64) + (x0.1 0)) + (x0.1 1)) + (x0.1 2))), (0, .ref b0)]) hx hb dX1_energyOfAll_22 hl (k := 1) rfl (by decide) (by decide) rfl (fun ls hl => ?_)
  refine lv_goto (tgt := 4) hx hb dX1_energyOfAll_25 (by decide) ?_
  refine lv_iload_n hx hb dX1_energyOfAll_4 rfl (lv_at hl 0 rfl) ?_
  refine lv_aload_n hx hb dX1_energyOfAll_5 rfl (lv_at hl 2 rfl) ?_
  refine va_get (D := D) (ci := 1) (v := .ref b1) (C := RX1) (T := TX1) (N := 2) hx hb hts hinX1 hown hQ.1 hP 0 rfl rfl 0 (by decide) (hts (.fieldLink RX1 11 "HeatPumpPlant$Buffer" "energies" "[J") (List.mem_of_getElem? (i := 1) rfl)) (fun _ h9 => h9) rfl dX1_energyOfAll_6 ?_
  refine va_alen (v := (4 : Int32)) hx hb hQ.1 hP 1 1 rfl rfl rfl dX1_energyOfAll_9 ?_
  refine lv_icmp_ge (tgt := 28) hx hb dX1_energyOfAll_10 (by decide) (fun c4 => absurd c4 (by decide)) (fun _ => ?_)
  refine lv_lload_n hx hb dX1_energyOfAll_13 rfl (lv_at hl 1 rfl) ?_
  refine lv_aload_n hx hb dX1_energyOfAll_14 rfl (lv_at hl 2 rfl) ?_
  refine va_get (D := D) (ci := 1) (v := .ref b1) (C := RX1) (T := TX1) (N := 2) hx hb hts hinX1 hown hQ.1 hP 0 rfl rfl 0 (by decide) (hts (.fieldLink RX1 11 "HeatPumpPlant$Buffer" "energies" "[J") (List.mem_of_getElem? (i := 1) rfl)) (fun _ h9 => h9) rfl dX1_energyOfAll_15 ?_
  refine lv_iload_n hx hb dX1_energyOfAll_18 rfl (lv_at hl 0 rfl) ?_
  refine w_lald (f := x0.1) (j := 3) hx hb hQ.1 hP 1 1 rfl rfl (rfl : (3 : Int32) = nI 3) (by omega) (by decide) dX1_energyOfAll_19 ?_
  refine lv_ladd hx hb dX1_energyOfAll_20 ?_
  refine lv_lstore_n (lv' := [(1, .long (((((0 : Int64) + (x0.1 0)) + (x0.1 1)) + (x0.1 2)) + (x0.1 3))), (3, .int (3 : Int32)), (0, .ref b0)]) hx hb dX1_energyOfAll_21 rfl hl (by decide) rfl (fun ls hl => ?_)
  refine lv_iinc (v := (4 : Int32)) (lv' := [(3, .int (4 : Int32)), (1, .long (((((0 : Int64) + (x0.1 0)) + (x0.1 1)) + (x0.1 2)) + (x0.1 3))), (0, .ref b0)]) hx hb dX1_energyOfAll_22 hl (k := 1) rfl (by decide) (by decide) rfl (fun ls hl => ?_)
  refine lv_goto (tgt := 4) hx hb dX1_energyOfAll_25 (by decide) ?_
  refine lv_iload_n hx hb dX1_energyOfAll_4 rfl (lv_at hl 0 rfl) ?_
  refine lv_aload_n hx hb dX1_energyOfAll_5 rfl (lv_at hl 2 rfl) ?_
  refine va_get (D := D) (ci := 1) (v := .ref b1) (C := RX1) (T := TX1) (N := 2) hx hb hts hinX1 hown hQ.1 hP 0 rfl rfl 0 (by decide) (hts (.fieldLink RX1 11 "HeatPumpPlant$Buffer" "energies" "[J") (List.mem_of_getElem? (i := 1) rfl)) (fun _ h9 => h9) rfl dX1_energyOfAll_6 ?_
  refine va_alen (v := (4 : Int32)) hx hb hQ.1 hP 1 1 rfl rfl rfl dX1_energyOfAll_9 ?_
  refine lv_icmp_ge (tgt := 28) hx hb dX1_energyOfAll_10 (by decide) (fun _ => ?_) (fun c5 => absurd c5 (by decide))
  refine lv_lload_n hx hb dX1_energyOfAll_28 rfl (lv_at hl 1 rfl) ?_
  exact W.lret (v := (((((0 : Int64) + (x0.1 0)) + (x0.1 1)) + (x0.1 2)) + (x0.1 3))) hx hb hr (fun t ht hW => ⟨⟨(((((0 : Int64) + (x0.1 0)) + (x0.1 1)) + (x0.1 2)) + (x0.1 3)), (), rfl, ((rfl).symm), ht⟩, hS.F ht⟩) hS.2.2 dX1_energyOfAll_29
def F1_add (x0 : SB) (p1 : Int32) (p2 : Int64) : SB := (if p1 < (0 : Int32) then x0 else (if (4 : Int32) ≤ p1 then x0 else ((vp_updL x0.1 p1.toNatClampNeg ((x0.1 p1.toNatClampNeg) + p2)), x0.2)))
set_option maxHeartbeats 4000000 in
set_option maxRecDepth 100000 in
theorem m1_add (l : Launch) (D : va_G) (cI cL cP : ClassId) (b0 : Nat) (b1 : Nat) (x0 : SB) (p1 : Int32) (p2 : Int64) (sz : Nat) : Met l yX1_add wsX1_add ({ frames := 0, cells := 0, slots := 0, locals := 0 }) (va_Pc [.ref b0, .int p1, .long p2] (pM D cI cL cP sz (wF [gB cL b0 b1 x0]))) (va_Qv (fun (w : SB) => w = F1_add x0 p1 p2) (qW D (va_A (wF [gB cL b0 b1 x0]) sz) (fun w : SB => (wF [gB cL b0 b1 w]))) (va_A (wF [gB cL b0 b1 x0]) sz)) 0 0 (va_A (wF [gB cL b0 b1 x0]) sz) := by
  refine Met.ofW (cc := cX1_add) (maxL := 4) (ret := none) (by decide) rfl ?_
  intro p e s m args below meth c s₁ B hml hv
  obtain ⟨rfl, hsz, hP, hQ, hD0⟩ := hv
  have hx := B.exec
  have hb := B.bytes
  have hr := B.returns
  have hts := atoms_spec (ws := wsX1_add) B.pre
  have hown : s.vm.findClass RX1 = some m.cls := findClass_of_methodNamed B.named
  have hlocks := B.notSynchronized
  subst hsz
  have hD := hD0.self (sz := s.heap.size)
  generalize hAe : va_A (wF [gB cL b0 b1 x0]) s.heap.size = A at hD ⊢
  have hA : ∀ q : Nat, s.heap.size ≤ q → A q := fun q h => by rw [← hAe]; exact Or.inr h
  have hS : va_S A s.heap s.heap [] := va_S.rf
  have hP : va_P D vwCl (wF [gB cL b0 b1 x0]) s.heap := hP
  have hl := lv_entry ([.ref b0, .int p1, .long p2]) (n := 4) (Nat.le_of_ble_eq_true rfl)
  rw [lg_entry_eq]
  generalize (lg_sl ([.ref b0, .int p1, .long p2]) ++ List.replicate (4 - (lg_sl ([.ref b0, .int p1, .long p2])).length) Slot.unset).toArray = ls at hl ⊢
  have hl : lv_has ls 4 [(0, .ref b0), (1, .int p1), (2, .long p2)] := hl
  have hinX1 : ∀ w ∈ wsX10, w ∈ wsX1_add := fun _ h => List.mem_cons_of_mem _ (List.mem_append_right _ h)
  refine lv_iload_n hx hb dX1_add_0 rfl (lv_at hl 1 rfl) ?_
  refine lv_if_lt (tgt := 23) hx hb dX1_add_1 (by decide) (fun c1 => ?_) (fun c1 => ?_)
  · have c1 : p1 < (0 : Int32) := c1
    exact W.vret hx hb hr (fun t ht hW => ⟨⟨x0, rfl, ((Eq.trans (if_pos c1) (rfl)).symm), by rw [ht]; exact hP, hD⟩, hS.F ht⟩) hS.2.2 dX1_add_23
  · have c1 : ¬ (p1 < (0 : Int32)) := c1
    refine lv_iload_n hx hb dX1_add_4 rfl (lv_at hl 1 rfl) ?_
    refine lv_aload_n hx hb dX1_add_5 rfl (lv_at hl 0 rfl) ?_
    refine va_get (D := D) (ci := 1) (v := .ref b1) (C := RX1) (T := TX1) (N := 2) hx hb hts hinX1 hown hQ.1 hP 0 rfl rfl 0 (by decide) (hts (.fieldLink RX1 11 "HeatPumpPlant$Buffer" "energies" "[J") (List.mem_of_getElem? (i := 1) rfl)) (fun _ h9 => h9) rfl dX1_add_6 ?_
    refine va_alen (v := (4 : Int32)) hx hb hQ.1 hP 1 1 rfl rfl rfl dX1_add_9 ?_
    refine lv_icmp_ge (tgt := 23) hx hb dX1_add_10 (by decide) (fun c2 => ?_) (fun c2 => ?_)
    · have c2 : (4 : Int32) ≤ p1 := c2
      exact W.vret hx hb hr (fun t ht hW => ⟨⟨x0, rfl, ((Eq.trans (if_neg c1) (Eq.trans (if_pos c2) (rfl))).symm), by rw [ht]; exact hP, hD⟩, hS.F ht⟩) hS.2.2 dX1_add_23
    · have c2 : ¬ ((4 : Int32) ≤ p1) := c2
      refine lv_aload_n hx hb dX1_add_13 rfl (lv_at hl 0 rfl) ?_
      refine va_get (D := D) (ci := 1) (v := .ref b1) (C := RX1) (T := TX1) (N := 2) hx hb hts hinX1 hown hQ.1 hP 0 rfl rfl 0 (by decide) (hts (.fieldLink RX1 11 "HeatPumpPlant$Buffer" "energies" "[J") (List.mem_of_getElem? (i := 1) rfl)) (fun _ h9 => h9) rfl dX1_add_14 ?_
      refine lv_iload_n hx hb dX1_add_17 rfl (lv_at hl 1 rfl) ?_
      refine lv_dup2_11 hx hb dX1_add_18 rfl rfl ?_
      refine va_lald (f := x0.1) hx hb hQ.1 hP 1 1 rfl rfl (w_inx (by decide) c1 c2) dX1_add_19 ?_
      refine lv_lload_n hx hb dX1_add_20 rfl (lv_at hl 2 rfl) ?_
      refine lv_ladd hx hb dX1_add_21 ?_
      refine va_last (f := x0.1) hx hb hQ.1 hP hD hS 1 1 rfl rfl (w_inx (by decide) c1 c2) dX1_add_22 (fun H locs hP hD hS => ?_)
      have hP : va_P D vwCl (wF [gB cL b0 b1 ((vp_updL x0.1 p1.toNatClampNeg ((x0.1 p1.toNatClampNeg) + p2)), x0.2)]) H := hP
      have hD : va_D A (wF [gB cL b0 b1 ((vp_updL x0.1 p1.toNatClampNeg ((x0.1 p1.toNatClampNeg) + p2)), x0.2)]) := hD
      exact W.vret hx hb hr (fun t ht hW => ⟨⟨((vp_updL x0.1 p1.toNatClampNeg ((x0.1 p1.toNatClampNeg) + p2)), x0.2), rfl, ((Eq.trans (if_neg c1) (Eq.trans (if_neg c2) (rfl))).symm), by rw [ht]; exact hP, hD⟩, hS.F ht⟩) hS.2.2 dX1_add_23
def F1_draw (x0 : SB) (p1 : Int64) : Int64 × SB := ((if (if ((x0.1 0) - ((200 : Int64) * (x0.2).toInt64)) < p1 then ((x0.1 0) - ((200 : Int64) * (x0.2).toInt64)) else p1) < (0 : Int64) then (0 : Int64) else (if ((x0.1 0) - ((200 : Int64) * (x0.2).toInt64)) < p1 then ((x0.1 0) - ((200 : Int64) * (x0.2).toInt64)) else p1)), ((vp_updL x0.1 0 ((x0.1 0) - (if (if ((x0.1 0) - ((200 : Int64) * (x0.2).toInt64)) < p1 then ((x0.1 0) - ((200 : Int64) * (x0.2).toInt64)) else p1) < (0 : Int64) then (0 : Int64) else (if ((x0.1 0) - ((200 : Int64) * (x0.2).toInt64)) < p1 then ((x0.1 0) - ((200 : Int64) * (x0.2).toInt64)) else p1)))), x0.2))
set_option maxHeartbeats 4000000 in
set_option maxRecDepth 100000 in
theorem m1_draw (l : Launch) (D : va_G) (cI cL cP : ClassId) (b0 : Nat) (b1 : Nat) (x0 : SB) (p1 : Int64) (sz : Nat) : Met l yX1_draw wsX1_draw ({ frames := 1, cells := 0, slots := 0, locals := 23 }) (va_Pc [.ref b0, .long p1] (pM D cI cL cP sz (wF [gB cL b0 b1 x0]))) (va_Ql (fun (r : Int64) (w : SB) => (r, w) = F1_draw x0 p1) (qW D (va_A (wF [gB cL b0 b1 x0]) sz) (fun w : SB => (wF [gB cL b0 b1 w]))) (va_A (wF [gB cL b0 b1 x0]) sz)) 0 0 (va_A (wF [gB cL b0 b1 x0]) sz) := by
  refine Met.ofW (cc := cX1_draw) (maxL := 7) (ret := (some .long)) (by decide) rfl ?_
  intro p e s m args below meth c s₁ B hml hv
  obtain ⟨rfl, hsz, hP, hQ, hD0⟩ := hv
  have hx := B.exec
  have hb := B.bytes
  have hr := B.returns
  have hts := atoms_spec (ws := wsX1_draw) B.pre
  have hown : s.vm.findClass RX1 = some m.cls := findClass_of_methodNamed B.named
  have hlocks := B.notSynchronized
  subst hsz
  have hD := hD0.self (sz := s.heap.size)
  generalize hAe : va_A (wF [gB cL b0 b1 x0]) s.heap.size = A at hD ⊢
  have hA : ∀ q : Nat, s.heap.size ≤ q → A q := fun q h => by rw [← hAe]; exact Or.inr h
  have hS : va_S A s.heap s.heap [] := va_S.rf
  have hP : va_P D vwCl (wF [gB cL b0 b1 x0]) s.heap := hP
  have hl := lv_entry ([.ref b0, .long p1]) (n := 7) (Nat.le_of_ble_eq_true rfl)
  rw [lg_entry_eq]
  generalize (lg_sl ([.ref b0, .long p1]) ++ List.replicate (7 - (lg_sl ([.ref b0, .long p1])).length) Slot.unset).toArray = ls at hl ⊢
  have hl : lv_has ls 7 [(0, .ref b0), (1, .long p1)] := hl
  have hinX1 : ∀ w ∈ wsX10, w ∈ wsX1_draw := fun _ h => List.mem_cons_of_mem _ (List.mem_append_right _ h)
  refine lv_iconst (v := (0 : Int32)) hx hb dX1_draw_0 (by decide) ?_
  refine lv_aload_n hx hb dX1_draw_1 rfl (lv_at hl 0 rfl) ?_
  refine va_get (D := D) (ci := 1) (v := .ref b1) (C := RX1) (T := TX1) (N := 2) hx hb hts hinX1 hown hQ.1 hP 0 rfl rfl 0 (by decide) (hts (.fieldLink RX1 11 "HeatPumpPlant$Buffer" "energies" "[J") (List.mem_of_getElem? (i := 1) rfl)) (fun _ h9 => h9) rfl dX1_draw_2 ?_
  refine va_alen (v := (4 : Int32)) hx hb hQ.1 hP 1 1 rfl rfl rfl dX1_draw_5 ?_
  refine lv_icmp_lt (tgt := 11) hx hb dX1_draw_6 (by decide) (fun _ => ?_) (fun c1 => absurd c1 (by decide))
  refine lv_aload_n hx hb dX1_draw_11 rfl (lv_at hl 0 rfl) ?_
  refine va_get (D := D) (ci := 1) (v := .ref b1) (C := RX1) (T := TX1) (N := 2) hx hb hts hinX1 hown hQ.1 hP 0 rfl rfl 0 (by decide) (hts (.fieldLink RX1 11 "HeatPumpPlant$Buffer" "energies" "[J") (List.mem_of_getElem? (i := 1) rfl)) (fun _ h9 => h9) rfl dX1_draw_12 ?_
  refine lv_iconst (v := (0 : Int32)) hx hb dX1_draw_15 (by decide) ?_
  refine w_lald (f := x0.1) (j := 0) hx hb hQ.1 hP 1 1 rfl rfl (rfl : (0 : Int32) = nI 0) (by omega) (by decide) dX1_draw_16 ?_
  refine lv_ldc2 (own := RX1) (index := 29) (v := (200 : Int64)) hx hb hown (hts (.constantLong RX1 29 (200)) (List.mem_of_getElem? (i := 2) rfl)) dX1_draw_17 ?_
  refine lv_aload_n hx hb dX1_draw_20 rfl (lv_at hl 0 rfl) ?_
  refine va_get (D := D) (ci := 1) (v := .int x0.2) (C := RX1) (T := TX1) (N := 2) hx hb hts hinX1 hown hQ.1 hP 0 rfl rfl 1 (by decide) (hts (.fieldLink RX1 19 "HeatPumpPlant$Buffer" "capacity" "I") (List.mem_of_getElem? (i := 3) rfl)) (fun _ h9 => h9) rfl dX1_draw_21 ?_
  refine lv_i2l hx hb dX1_draw_24 rfl ?_
  refine lv_lmul hx hb dX1_draw_25 ?_
  refine lv_lsub hx hb dX1_draw_26 ?_
  refine lv_lstore_n (lv' := [(3, .long ((x0.1 0) - ((200 : Int64) * (x0.2).toInt64))), (0, .ref b0), (1, .long p1)]) hx hb dX1_draw_27 rfl hl (by decide) rfl (fun ls hl => ?_)
  refine lv_lconst (v := (0 : Int64)) hx hb dX1_draw_28 rfl ?_
  refine lv_lload_n hx hb dX1_draw_29 rfl (lv_at hl 2 rfl) ?_
  refine lv_lload_n hx hb dX1_draw_30 rfl (lv_at hl 0 rfl) ?_
  refine va_mmin_long (own := RX1) hx hb (hml.trans hl.1.symm) hown (hts (.methodLink RX1 31 Lib.MathLoose.min_long.x) (List.mem_of_getElem? (i := 4) rfl)) (hts (.static Lib.MathLoose.min_long.x) (List.mem_of_getElem? (i := 5) rfl)) (hts (.initialized "java/lang/Math") (List.mem_of_getElem? (i := 6) rfl)) (hts (.code Lib.MathLoose.min_long.x Lib.MathLoose.min_long.code 4 (some .long)) (List.mem_of_getElem? (i := 7) rfl)) (Nat.le_of_ble_eq_true rfl) (Nat.le_of_ble_eq_true rfl) (Nat.le_of_ble_eq_true rfl) (Nat.le_of_ble_eq_true rfl) dX1_draw_31 ?_
  refine va_mmax_long (own := RX1) hx hb (hml.trans hl.1.symm) hown (hts (.methodLink RX1 36 Lib.MathLoose.max_long.x) (List.mem_of_getElem? (i := 8) rfl)) (hts (.static Lib.MathLoose.max_long.x) (List.mem_of_getElem? (i := 9) rfl)) (hts (.initialized "java/lang/Math") (List.mem_of_getElem? (i := 6) rfl)) (hts (.code Lib.MathLoose.max_long.x Lib.MathLoose.max_long.code 4 (some .long)) (List.mem_of_getElem? (i := 10) rfl)) (Nat.le_of_ble_eq_true rfl) (Nat.le_of_ble_eq_true rfl) (Nat.le_of_ble_eq_true rfl) (Nat.le_of_ble_eq_true rfl) dX1_draw_34 ?_
  refine lv_lstore (lv' := [(5, .long (if (if ((x0.1 0) - ((200 : Int64) * (x0.2).toInt64)) < p1 then ((x0.1 0) - ((200 : Int64) * (x0.2).toInt64)) else p1) < (0 : Int64) then (0 : Int64) else (if ((x0.1 0) - ((200 : Int64) * (x0.2).toInt64)) < p1 then ((x0.1 0) - ((200 : Int64) * (x0.2).toInt64)) else p1))), (3, .long ((x0.1 0) - ((200 : Int64) * (x0.2).toInt64))), (0, .ref b0), (1, .long p1)]) hx hb dX1_draw_37 hl (by decide) rfl (fun ls hl => ?_)
  refine lv_aload_n hx hb dX1_draw_39 rfl (lv_at hl 2 rfl) ?_
  refine va_get (D := D) (ci := 1) (v := .ref b1) (C := RX1) (T := TX1) (N := 2) hx hb hts hinX1 hown hQ.1 hP 0 rfl rfl 0 (by decide) (hts (.fieldLink RX1 11 "HeatPumpPlant$Buffer" "energies" "[J") (List.mem_of_getElem? (i := 1) rfl)) (fun _ h9 => h9) rfl dX1_draw_40 ?_
  refine lv_iconst (v := (0 : Int32)) hx hb dX1_draw_43 (by decide) ?_
  refine lv_dup2_11 hx hb dX1_draw_44 rfl rfl ?_
  refine w_lald (f := x0.1) (j := 0) hx hb hQ.1 hP 1 1 rfl rfl (rfl : (0 : Int32) = nI 0) (by omega) (by decide) dX1_draw_45 ?_
  refine lv_lload hx hb dX1_draw_46 (lv_at hl 0 rfl) ?_
  refine lv_lsub hx hb dX1_draw_48 ?_
  refine w_last (f := x0.1) (j := 0) hx hb hQ.1 hP hD hS 1 1 rfl rfl (rfl : (0 : Int32) = nI 0) (by omega) (by decide) dX1_draw_49 (fun H locs hP hD hS => ?_)
  have hP : va_P D vwCl (wF [gB cL b0 b1 ((vp_updL x0.1 0 ((x0.1 0) - (if (if ((x0.1 0) - ((200 : Int64) * (x0.2).toInt64)) < p1 then ((x0.1 0) - ((200 : Int64) * (x0.2).toInt64)) else p1) < (0 : Int64) then (0 : Int64) else (if ((x0.1 0) - ((200 : Int64) * (x0.2).toInt64)) < p1 then ((x0.1 0) - ((200 : Int64) * (x0.2).toInt64)) else p1)))), x0.2)]) H := hP
  have hD : va_D A (wF [gB cL b0 b1 ((vp_updL x0.1 0 ((x0.1 0) - (if (if ((x0.1 0) - ((200 : Int64) * (x0.2).toInt64)) < p1 then ((x0.1 0) - ((200 : Int64) * (x0.2).toInt64)) else p1) < (0 : Int64) then (0 : Int64) else (if ((x0.1 0) - ((200 : Int64) * (x0.2).toInt64)) < p1 then ((x0.1 0) - ((200 : Int64) * (x0.2).toInt64)) else p1)))), x0.2)]) := hD
  refine lv_lload hx hb dX1_draw_50 (lv_at hl 0 rfl) ?_
  exact W.lret (v := (if (if ((x0.1 0) - ((200 : Int64) * (x0.2).toInt64)) < p1 then ((x0.1 0) - ((200 : Int64) * (x0.2).toInt64)) else p1) < (0 : Int64) then (0 : Int64) else (if ((x0.1 0) - ((200 : Int64) * (x0.2).toInt64)) < p1 then ((x0.1 0) - ((200 : Int64) * (x0.2).toInt64)) else p1))) hx hb hr (fun t ht hW => ⟨⟨(if (if ((x0.1 0) - ((200 : Int64) * (x0.2).toInt64)) < p1 then ((x0.1 0) - ((200 : Int64) * (x0.2).toInt64)) else p1) < (0 : Int64) then (0 : Int64) else (if ((x0.1 0) - ((200 : Int64) * (x0.2).toInt64)) < p1 then ((x0.1 0) - ((200 : Int64) * (x0.2).toInt64)) else p1)), ((vp_updL x0.1 0 ((x0.1 0) - (if (if ((x0.1 0) - ((200 : Int64) * (x0.2).toInt64)) < p1 then ((x0.1 0) - ((200 : Int64) * (x0.2).toInt64)) else p1) < (0 : Int64) then (0 : Int64) else (if ((x0.1 0) - ((200 : Int64) * (x0.2).toInt64)) < p1 then ((x0.1 0) - ((200 : Int64) * (x0.2).toInt64)) else p1)))), x0.2), rfl, ((rfl).symm), by rw [ht]; exact hP, hD⟩, hS.F ht⟩) hS.2.2 dX1_draw_52
def L1_lose_5 (x0 : SB) (p1 : Int32) : Nat → Nat → (Nat → Int64) → Int64 → Nat × (Nat → Int64) × Int64
  | 0, _, _, _ => default
  | fu + 1, i, E, a => (if 4 ≤ i then (i, E, a) else ((L1_lose_5 x0 p1 fu) (i + 1) (vp_updL E i ((E i) - (if (F10_div (((F1_temperatureOf (E, x0.2) (nI i)) - (200 : Int64)) * p1.toInt64) (10 : Int64)) < (0 : Int64) then (0 : Int64) else (F10_div (((F1_temperatureOf (E, x0.2) (nI i)) - (200 : Int64)) * p1.toInt64) (10 : Int64))))) (a + (if (F10_div (((F1_temperatureOf (E, x0.2) (nI i)) - (200 : Int64)) * p1.toInt64) (10 : Int64)) < (0 : Int64) then (0 : Int64) else (F10_div (((F1_temperatureOf (E, x0.2) (nI i)) - (200 : Int64)) * p1.toInt64) (10 : Int64))))))
def K1_lose_1 (x0 : SB) (p1 : Int32) (z2 : Nat × (Nat → Int64) × Int64) : Int64 × SB := (z2.2.2, (z2.2.1, x0.2))
def F1_lose (x0 : SB) (p1 : Int32) : Int64 × SB := (K1_lose_1 x0 p1 (L1_lose_5 x0 p1 5 0 x0.1 (0 : Int64)))
set_option maxHeartbeats 4000000 in
set_option maxRecDepth 100000 in
theorem m1_lose (l : Launch) (D : va_G) (cI cL cP : ClassId) (b0 : Nat) (b1 : Nat) (x0 : SB) (p1 : Int32) (sz : Nat) : Met l yX1_lose wsX1_lose ({ frames := 2, cells := 0, slots := 0, locals := 46 }) (va_Pc [.ref b0, .int p1] (pM D cI cL cP sz (wF [gB cL b0 b1 x0]))) (va_Ql (fun (r : Int64) (w : SB) => (r, w) = F1_lose x0 p1) (qW D (va_A (wF [gB cL b0 b1 x0]) sz) (fun w : SB => (wF [gB cL b0 b1 w]))) (va_A (wF [gB cL b0 b1 x0]) sz)) 0 0 (va_A (wF [gB cL b0 b1 x0]) sz) := by
  refine Met.ofW (cc := cX1_lose) (maxL := 7) (ret := (some .long)) (by decide) rfl ?_
  intro p e s m args below meth c s₁ B hml hv
  obtain ⟨rfl, hsz, hP, hQ, hD0⟩ := hv
  have hx := B.exec
  have hb := B.bytes
  have hr := B.returns
  have hts := atoms_spec (ws := wsX1_lose) B.pre
  have hown : s.vm.findClass RX1 = some m.cls := findClass_of_methodNamed B.named
  have hlocks := B.notSynchronized
  subst hsz
  have hD := hD0.self (sz := s.heap.size)
  generalize hAe : va_A (wF [gB cL b0 b1 x0]) s.heap.size = A at hD ⊢
  have hA : ∀ q : Nat, s.heap.size ≤ q → A q := fun q h => by rw [← hAe]; exact Or.inr h
  have hS : va_S A s.heap s.heap [] := va_S.rf
  have hP : va_P D vwCl (wF [gB cL b0 b1 x0]) s.heap := hP
  have hl := lv_entry ([.ref b0, .int p1]) (n := 7) (Nat.le_of_ble_eq_true rfl)
  rw [lg_entry_eq]
  generalize (lg_sl ([.ref b0, .int p1]) ++ List.replicate (7 - (lg_sl ([.ref b0, .int p1])).length) Slot.unset).toArray = ls at hl ⊢
  have hl : lv_has ls 7 [(0, .ref b0), (1, .int p1)] := hl
  have hinX1 : ∀ w ∈ wsX10, w ∈ wsX1_lose := fun _ h => List.mem_cons_of_mem _ (List.mem_append_right _ h)
  refine lv_lconst (v := (0 : Int64)) hx hb dX1_lose_0 rfl ?_
  refine lv_lstore_n (lv' := [(2, .long (0 : Int64)), (0, .ref b0), (1, .int p1)]) hx hb dX1_lose_1 rfl hl (by decide) rfl (fun ls hl => ?_)
  refine lv_iconst (v := (0 : Int32)) hx hb dX1_lose_2 (by decide) ?_
  refine lv_istore (lv' := [(4, .int (0 : Int32)), (2, .long (0 : Int64)), (0, .ref b0), (1, .int p1)]) hx hb dX1_lose_3 hl (by decide) rfl (fun ls hl => ?_)
  have loop5 : ∀ (fu : Nat) (i : Nat) (E : Nat → Int64) (a : Int64) (hi : i ≤ 4) (hm : 4 - i < fu) (kk : ∀ z : Nat × (Nat → Int64) × Int64, z = L1_lose_5 x0 p1 fu i E a → ((z.1) ≤ 4) → ∀ (H : Heap) (locs : List Loc) (_ : va_P D vwCl (wF [gB cL b0 b1 (z.2.1, x0.2)]) H) (_ : va_D A (wF [gB cL b0 b1 (z.2.1, x0.2)])) (_ : va_S A s.heap H locs) (ls : Array Slot) (_ : lv_has ls 7 [(4, .int (nI z.1)), (2, .long z.2.2), (0, .ref b0), (1, .int p1)]), W p l e (headSpec wsX1_lose ({ frames := 2, cells := 0, slots := 0, locals := 46 })).room s m #[.ref b0, .int p1] below meth c H locs 0 0 (MQ below (va_Ql (fun (r : Int64) (w : SB) => (r, w) = F1_lose x0 p1) (qW D A (fun w : SB => (wF [gB cL b0 b1 w]))) A) #[.ref b0, .int p1] s 0 0 A) (F0 m 63 ls [])), ∀ (H : Heap) (locs : List Loc) (_ : va_P D vwCl (wF [gB cL b0 b1 (E, x0.2)]) H) (_ : va_D A (wF [gB cL b0 b1 (E, x0.2)])) (_ : va_S A s.heap H locs) (ls : Array Slot) (_ : lv_has ls 7 [(4, .int (nI i)), (2, .long a), (0, .ref b0), (1, .int p1)]), W p l e (headSpec wsX1_lose ({ frames := 2, cells := 0, slots := 0, locals := 46 })).room s m #[.ref b0, .int p1] below meth c H locs 0 0 (MQ below (va_Ql (fun (r : Int64) (w : SB) => (r, w) = F1_lose x0 p1) (qW D A (fun w : SB => (wF [gB cL b0 b1 w]))) A) #[.ref b0, .int p1] s 0 0 A) (F0 m 5 ls []) := by
    intro fu
    induction fu with
    | zero => intro i E a hi hm; exact absurd hm (by omega)
    | succ fu ih =>
      intro i E a hi hm kk H locs hP hD hS ls hl
      refine lv_iload hx hb dX1_lose_5 (lv_at hl 0 rfl) ?_
      refine lv_aload_n hx hb dX1_lose_7 rfl (lv_at hl 2 rfl) ?_
      refine va_get (D := D) (ci := 1) (v := .ref b1) (C := RX1) (T := TX1) (N := 2) hx hb hts hinX1 hown hQ.1 hP 0 rfl rfl 0 (by decide) (hts (.fieldLink RX1 11 "HeatPumpPlant$Buffer" "energies" "[J") (List.mem_of_getElem? (i := 1) rfl)) (fun _ h9 => h9) rfl dX1_lose_8 ?_
      refine va_alen (v := (4 : Int32)) hx hb hQ.1 hP 1 1 rfl rfl rfl dX1_lose_11 ?_
      refine lv_icmp_ge (tgt := 63) hx hb dX1_lose_12 (by decide) (fun c1 => ?_) (fun c1 => ?_)
      · have c1 : 4 ≤ i := (nI_leI (a := 4) (b := i) (by omega) (by omega)).mp c1
        exact kk (i, E, a) ((Eq.trans (if_pos c1) (rfl)).symm) hi H locs hP hD hS ls (lv_sub hl [0, 1, 2, 3] rfl)
      · have c1 : ¬ (4 ≤ i) := fun h9 => c1 ((nI_leI (a := 4) (b := i) (by omega) (by omega)).mpr h9)
        refine lv_lconst (v := (0 : Int64)) hx hb dX1_lose_15 rfl ?_
        refine lv_aload_n hx hb dX1_lose_16 rfl (lv_at hl 2 rfl) ?_
        refine lv_iload hx hb dX1_lose_17 (lv_at hl 0 rfl) ?_
        have hPc : va_P D vwCl (wF [gB cL b0 b1 (E, x0.2)]) H := hP.sub [0, 1] rfl
        refine c_Rl (va_runV (As := [.int (nI i)]) (rest := [.long (0 : Int64)]) ⟨hx, hb, hml, hown, hts⟩ (m1_temperatureOf l D cI cL cP b0 b1 (E, x0.2) (nI i) H) (cwV 1 hts gX1_lose_X1_temperatureOf rfl rfl rfl (by decide +kernel) ⟨Nat.le_of_ble_eq_true rfl, Nat.le_of_ble_eq_true rfl⟩) (preR_V (q := (RX1, TX1, 2)) (q0 := 0) hQ hPc rfl rfl) rfl rfl hl.1 rfl (lv_room (Nat.le_of_ble_eq_true rfl)) dX1_lose_19 ⟨Nat.le_of_ble_eq_true rfl, Nat.le_of_ble_eq_true rfl⟩) hS (fun locs hS => ?_)
        refine lv_ldc2 (own := RX1) (index := 29) (v := (200 : Int64)) hx hb hown (hts (.constantLong RX1 29 (200)) (List.mem_of_getElem? (i := 2) rfl)) dX1_lose_22 ?_
        refine lv_lsub hx hb dX1_lose_25 ?_
        refine lv_iload_n hx hb dX1_lose_26 rfl (lv_at hl 3 rfl) ?_
        refine lv_i2l hx hb dX1_lose_27 rfl ?_
        refine lv_lmul hx hb dX1_lose_28 ?_
        refine lv_ldc2 (own := RX1) (index := 43) (v := (10 : Int64)) hx hb hown (hts (.constantLong RX1 43 (10)) (List.mem_of_getElem? (i := 3) rfl)) dX1_lose_29 ?_
        have hPc : va_P D vwCl (wF []) H := hP.sub [] rfl
        refine c_Rl (va_runSN (As := [.long (((F1_temperatureOf (E, x0.2) (nI i)) - (200 : Int64)) * p1.toInt64), .long (10 : Int64)]) (rest := [.long (0 : Int64)]) ⟨hx, hb, hml, hown, hts⟩ (m10_div l D cI cL cP (((F1_temperatureOf (E, x0.2) (nI i)) - (200 : Int64)) * p1.toInt64) (10 : Int64) H) ⟨va_cnB 2 hts gX1_lose_X10_div_n23 rfl rfl rfl (hQ.2 (RX1, 23, yX10_div, "HeatPumpPlant") (List.mem_of_getElem? (i := 15) rfl)) (hts (.initialized RX10) (List.mem_of_getElem? (i := 16) rfl)) (by decide +kernel) ⟨Nat.le_of_ble_eq_true rfl, Nat.le_of_ble_eq_true rfl⟩, (hts (.static yX10_div) (List.mem_of_getElem? (i := 15) rfl)), trivial⟩ (preR_S hQ hPc) rfl rfl hl.1 rfl (lv_room (Nat.le_of_ble_eq_true rfl)) dX1_lose_32 ⟨Nat.le_of_ble_eq_true rfl, Nat.le_of_ble_eq_true rfl⟩) hS (fun locs hS => ?_)
        refine va_mmax_long (own := RX1) hx hb (hml.trans hl.1.symm) hown (hts (.methodLink RX1 36 Lib.MathLoose.max_long.x) (List.mem_of_getElem? (i := 4) rfl)) (hts (.static Lib.MathLoose.max_long.x) (List.mem_of_getElem? (i := 5) rfl)) (hts (.initialized "java/lang/Math") (List.mem_of_getElem? (i := 6) rfl)) (hts (.code Lib.MathLoose.max_long.x Lib.MathLoose.max_long.code 4 (some .long)) (List.mem_of_getElem? (i := 7) rfl)) (Nat.le_of_ble_eq_true rfl) (Nat.le_of_ble_eq_true rfl) (Nat.le_of_ble_eq_true rfl) (Nat.le_of_ble_eq_true rfl) dX1_lose_35 ?_
        refine lv_lstore (lv' := [(5, .long (if (F10_div (((F1_temperatureOf (E, x0.2) (nI i)) - (200 : Int64)) * p1.toInt64) (10 : Int64)) < (0 : Int64) then (0 : Int64) else (F10_div (((F1_temperatureOf (E, x0.2) (nI i)) - (200 : Int64)) * p1.toInt64) (10 : Int64)))), (4, .int (nI i)), (2, .long a), (0, .ref b0), (1, .int p1)]) hx hb dX1_lose_38 hl (by decide) rfl (fun ls hl => ?_)
        refine lv_aload_n hx hb dX1_lose_40 rfl (lv_at hl 3 rfl) ?_
        refine va_get (D := D) (ci := 1) (v := .ref b1) (C := RX1) (T := TX1) (N := 2) hx hb hts hinX1 hown hQ.1 hP 0 rfl rfl 0 (by decide) (hts (.fieldLink RX1 11 "HeatPumpPlant$Buffer" "energies" "[J") (List.mem_of_getElem? (i := 1) rfl)) (fun _ h9 => h9) rfl dX1_lose_41 ?_
        refine lv_iload hx hb dX1_lose_44 (lv_at hl 1 rfl) ?_
        refine lv_dup2_11 hx hb dX1_lose_46 rfl rfl ?_
        refine w_lald (f := E) (j := i) hx hb hQ.1 hP 1 1 rfl rfl rfl (by omega) (by decide) dX1_lose_47 ?_
        refine lv_lload hx hb dX1_lose_48 (lv_at hl 0 rfl) ?_
        refine lv_lsub hx hb dX1_lose_50 ?_
        refine w_last (f := E) (j := i) hx hb hQ.1 hP hD hS 1 1 rfl rfl rfl (by omega) (by decide) dX1_lose_51 (fun H locs hP hD hS => ?_)
        have hP : va_P D vwCl (wF [gB cL b0 b1 ((vp_updL E i ((E i) - (if (F10_div (((F1_temperatureOf (E, x0.2) (nI i)) - (200 : Int64)) * p1.toInt64) (10 : Int64)) < (0 : Int64) then (0 : Int64) else (F10_div (((F1_temperatureOf (E, x0.2) (nI i)) - (200 : Int64)) * p1.toInt64) (10 : Int64))))), x0.2)]) H := hP
        have hD : va_D A (wF [gB cL b0 b1 ((vp_updL E i ((E i) - (if (F10_div (((F1_temperatureOf (E, x0.2) (nI i)) - (200 : Int64)) * p1.toInt64) (10 : Int64)) < (0 : Int64) then (0 : Int64) else (F10_div (((F1_temperatureOf (E, x0.2) (nI i)) - (200 : Int64)) * p1.toInt64) (10 : Int64))))), x0.2)]) := hD
        refine lv_lload_n hx hb dX1_lose_52 rfl (lv_at hl 2 rfl) ?_
        refine lv_lload hx hb dX1_lose_53 (lv_at hl 0 rfl) ?_
        refine lv_ladd hx hb dX1_lose_55 ?_
        refine lv_lstore_n (lv' := [(2, .long (a + (if (F10_div (((F1_temperatureOf (E, x0.2) (nI i)) - (200 : Int64)) * p1.toInt64) (10 : Int64)) < (0 : Int64) then (0 : Int64) else (F10_div (((F1_temperatureOf (E, x0.2) (nI i)) - (200 : Int64)) * p1.toInt64) (10 : Int64))))), (5, .long (if (F10_div (((F1_temperatureOf (E, x0.2) (nI i)) - (200 : Int64)) * p1.toInt64) (10 : Int64)) < (0 : Int64) then (0 : Int64) else (F10_div (((F1_temperatureOf (E, x0.2) (nI i)) - (200 : Int64)) * p1.toInt64) (10 : Int64)))), (4, .int (nI i)), (0, .ref b0), (1, .int p1)]) hx hb dX1_lose_56 rfl hl (by decide) rfl (fun ls hl => ?_)
        refine lv_iinc (v := (nI (i + 1))) (lv' := [(4, .int (nI (i + 1))), (2, .long (a + (if (F10_div (((F1_temperatureOf (E, x0.2) (nI i)) - (200 : Int64)) * p1.toInt64) (10 : Int64)) < (0 : Int64) then (0 : Int64) else (F10_div (((F1_temperatureOf (E, x0.2) (nI i)) - (200 : Int64)) * p1.toInt64) (10 : Int64))))), (5, .long (if (F10_div (((F1_temperatureOf (E, x0.2) (nI i)) - (200 : Int64)) * p1.toInt64) (10 : Int64)) < (0 : Int64) then (0 : Int64) else (F10_div (((F1_temperatureOf (E, x0.2) (nI i)) - (200 : Int64)) * p1.toInt64) (10 : Int64)))), (0, .ref b0), (1, .int p1)]) hx hb dX1_lose_57 hl (k := 2) rfl (nI_add i 1) (by decide) rfl (fun ls hl => ?_)
        refine lv_goto (tgt := 5) hx hb dX1_lose_60 (by decide) ?_
        have hP : va_P D vwCl (wF [gB cL b0 b1 ((vp_updL E i ((E i) - (if (F10_div (((F1_temperatureOf (E, x0.2) (nI i)) - (200 : Int64)) * p1.toInt64) (10 : Int64)) < (0 : Int64) then (0 : Int64) else (F10_div (((F1_temperatureOf (E, x0.2) (nI i)) - (200 : Int64)) * p1.toInt64) (10 : Int64))))), x0.2)]) H := hP
        have hD : va_D A (wF [gB cL b0 b1 ((vp_updL E i ((E i) - (if (F10_div (((F1_temperatureOf (E, x0.2) (nI i)) - (200 : Int64)) * p1.toInt64) (10 : Int64)) < (0 : Int64) then (0 : Int64) else (F10_div (((F1_temperatureOf (E, x0.2) (nI i)) - (200 : Int64)) * p1.toInt64) (10 : Int64))))), x0.2)]) := hD
        exact ih (i + 1) (vp_updL E i ((E i) - (if (F10_div (((F1_temperatureOf (E, x0.2) (nI i)) - (200 : Int64)) * p1.toInt64) (10 : Int64)) < (0 : Int64) then (0 : Int64) else (F10_div (((F1_temperatureOf (E, x0.2) (nI i)) - (200 : Int64)) * p1.toInt64) (10 : Int64))))) (a + (if (F10_div (((F1_temperatureOf (E, x0.2) (nI i)) - (200 : Int64)) * p1.toInt64) (10 : Int64)) < (0 : Int64) then (0 : Int64) else (F10_div (((F1_temperatureOf (E, x0.2) (nI i)) - (200 : Int64)) * p1.toInt64) (10 : Int64)))) (by omega) (by omega) (fun z hz => kk z (hz.trans ((Eq.trans (if_neg c1) (rfl)).symm))) H locs hP hD hS ls (lv_sub hl [0, 1, 3, 4] rfl)
  have hP : va_P D vwCl (wF [gB cL b0 b1 (x0.1, x0.2)]) s.heap := hP
  have hD : va_D A (wF [gB cL b0 b1 (x0.1, x0.2)]) := hD
  refine loop5 5 0 x0.1 (0 : Int64) (by omega) (by omega) (fun z2 hz2 hi_z2 H locs hP hD hS ls hl => ?_) s.heap [] hP hD hS ls (lv_sub hl [0, 1, 2, 3] rfl)
  refine lv_lload_n hx hb dX1_lose_63 rfl (lv_at hl 1 rfl) ?_
  exact W.lret (v := z2.2.2) hx hb hr (fun t ht hW => ⟨⟨z2.2.2, (z2.2.1, x0.2), rfl, ((Eq.trans (congrArg (K1_lose_1 x0 p1) hz2.symm) (rfl)).symm), by rw [ht]; exact hP, hD⟩, hS.F ht⟩) hS.2.2 dX1_lose_64
def B1_rise_12 (x0 : SB) : (Nat → Int64) := (if (F1_temperatureOf x0 (((4 : Int32) - (2 : Int32)) + (1 : Int32))) ≤ (F1_temperatureOf x0 ((4 : Int32) - (2 : Int32))) then x0.1 else (vp_updL (vp_updL x0.1 3 (F10_div ((x0.1 2) + (x0.1 3)) (2 : Int64))) 2 (((x0.1 2) + (x0.1 3)) - (F10_div ((x0.1 2) + (x0.1 3)) (2 : Int64)))))
def B1_rise_12_1 (x0 : SB) (z3 : (Nat → Int64)) : (Nat → Int64) := (if (F1_temperatureOf (z3, x0.2) ((1 : Int32) + (1 : Int32))) ≤ (F1_temperatureOf (z3, x0.2) (1 : Int32)) then z3 else (vp_updL (vp_updL z3 2 (F10_div ((z3 1) + (z3 2)) (2 : Int64))) 1 (((z3 1) + (z3 2)) - (F10_div ((z3 1) + (z3 2)) (2 : Int64)))))
def B1_rise_12_2 (x0 : SB) (z3 : (Nat → Int64)) (z6 : (Nat → Int64)) : (Nat → Int64) := (if (F1_temperatureOf (z6, x0.2) ((0 : Int32) + (1 : Int32))) ≤ (F1_temperatureOf (z6, x0.2) (0 : Int32)) then z6 else (vp_updL (vp_updL z6 1 (F10_div ((z6 0) + (z6 1)) (2 : Int64))) 0 (((z6 0) + (z6 1)) - (F10_div ((z6 0) + (z6 1)) (2 : Int64)))))
def K1_rise_3 (x0 : SB) (z3 : (Nat → Int64)) (z6 : (Nat → Int64)) (z9 : (Nat → Int64)) : SB := (z9, x0.2)
def K1_rise_2 (x0 : SB) (z3 : (Nat → Int64)) (z6 : (Nat → Int64)) : SB := (K1_rise_3 x0 z3 z6 (B1_rise_12_2 x0 z3 z6))
def K1_rise_1 (x0 : SB) (z3 : (Nat → Int64)) : SB := (K1_rise_2 x0 z3 (B1_rise_12_1 x0 z3))
def F1_rise (x0 : SB) : SB := (K1_rise_1 x0 (B1_rise_12 x0))
set_option maxHeartbeats 4000000 in
set_option maxRecDepth 100000 in
theorem m1_rise (l : Launch) (D : va_G) (cI cL cP : ClassId) (b0 : Nat) (b1 : Nat) (x0 : SB) (sz : Nat) : Met l yX1_rise wsX1_rise ({ frames := 2, cells := 0, slots := 0, locals := 46 }) (va_Pc [.ref b0] (pM D cI cL cP sz (wF [gB cL b0 b1 x0]))) (va_Qv (fun (w : SB) => w = F1_rise x0) (qW D (va_A (wF [gB cL b0 b1 x0]) sz) (fun w : SB => (wF [gB cL b0 b1 w]))) (va_A (wF [gB cL b0 b1 x0]) sz)) 0 0 (va_A (wF [gB cL b0 b1 x0]) sz) := by
  refine Met.ofW (cc := cX1_rise) (maxL := 4) (ret := none) (by decide) rfl ?_
  intro p e s m args below meth c s₁ B hml hv
  obtain ⟨rfl, hsz, hP, hQ, hD0⟩ := hv
  have hx := B.exec
  have hb := B.bytes
  have hr := B.returns
  have hts := atoms_spec (ws := wsX1_rise) B.pre
  have hown : s.vm.findClass RX1 = some m.cls := findClass_of_methodNamed B.named
  have hlocks := B.notSynchronized
  subst hsz
  have hD := hD0.self (sz := s.heap.size)
  generalize hAe : va_A (wF [gB cL b0 b1 x0]) s.heap.size = A at hD ⊢
  have hA : ∀ q : Nat, s.heap.size ≤ q → A q := fun q h => by rw [← hAe]; exact Or.inr h
  have hS : va_S A s.heap s.heap [] := va_S.rf
  have hP : va_P D vwCl (wF [gB cL b0 b1 x0]) s.heap := hP
  have hl := lv_entry ([.ref b0]) (n := 4) (Nat.le_of_ble_eq_true rfl)
  rw [lg_entry_eq]
  generalize (lg_sl ([.ref b0]) ++ List.replicate (4 - (lg_sl ([.ref b0])).length) Slot.unset).toArray = ls at hl ⊢
  have hl : lv_has ls 4 [(0, .ref b0)] := hl
  have hinX1 : ∀ w ∈ wsX10, w ∈ wsX1_rise := fun _ h => List.mem_cons_of_mem _ (List.mem_append_right _ h)
  refine lv_aload_n hx hb dX1_rise_0 rfl (lv_at hl 0 rfl) ?_
  refine va_get (D := D) (ci := 1) (v := .ref b1) (C := RX1) (T := TX1) (N := 2) hx hb hts hinX1 hown hQ.1 hP 0 rfl rfl 0 (by decide) (hts (.fieldLink RX1 11 "HeatPumpPlant$Buffer" "energies" "[J") (List.mem_of_getElem? (i := 1) rfl)) (fun _ h9 => h9) rfl dX1_rise_1 ?_
  refine va_alen (v := (4 : Int32)) hx hb hQ.1 hP 1 1 rfl rfl rfl dX1_rise_4 ?_
  refine lv_iconst (v := (2 : Int32)) hx hb dX1_rise_5 (by decide) ?_
  refine lv_isub hx hb dX1_rise_6 ?_
  refine lv_istore_n (lv' := [(1, .int ((4 : Int32) - (2 : Int32))), (0, .ref b0)]) hx hb dX1_rise_7 rfl hl (by decide) rfl (fun ls hl => ?_)
  refine lv_iload_n hx hb dX1_rise_8 rfl (lv_at hl 0 rfl) ?_
  refine lv_if_lt (tgt := 81) hx hb dX1_rise_9 (by decide) (fun c1 => absurd c1 (by decide)) (fun _ => ?_)
  refine w_suf (P := ∀ z : (Nat → Int64), z = B1_rise_12 x0 → ∀ (H : Heap) (locs : List Loc) (_ : va_P D vwCl (wF [gB cL b0 b1 (z, x0.2)]) H) (_ : va_D A (wF [gB cL b0 b1 (z, x0.2)])) (_ : va_S A s.heap H locs) (ls : Array Slot) (_ : lv_has ls 4 [(1, .int ((4 : Int32) - (2 : Int32))), (0, .ref b0)]), W p l e (headSpec wsX1_rise ({ frames := 2, cells := 0, slots := 0, locals := 46 })).room s m #[.ref b0] below meth c H locs 0 0 (MQ below (va_Qv (fun (w : SB) => w = F1_rise x0) (qW D A (fun w : SB => (wF [gB cL b0 b1 w]))) A) #[.ref b0] s 0 0 A) (F0 m 75 ls [])) (fun kk => ?_) ?_
  · refine lv_aload_n hx hb dX1_rise_12 rfl (lv_at hl 1 rfl) ?_
    refine lv_iload_n hx hb dX1_rise_13 rfl (lv_at hl 0 rfl) ?_
    have hPc : va_P D vwCl (wF [gB cL b0 b1 x0]) s.heap := hP.sub [0, 1] rfl
    refine c_Rl (va_runV (As := [.int ((4 : Int32) - (2 : Int32))]) (rest := []) ⟨hx, hb, hml, hown, hts⟩ (m1_temperatureOf l D cI cL cP b0 b1 x0 ((4 : Int32) - (2 : Int32)) s.heap) (cwV 1 hts gX1_rise_X1_temperatureOf rfl rfl rfl (by decide +kernel) ⟨Nat.le_of_ble_eq_true rfl, Nat.le_of_ble_eq_true rfl⟩) (preR_V (q := (RX1, TX1, 2)) (q0 := 0) hQ hPc rfl rfl) rfl rfl hl.1 rfl (lv_room (Nat.le_of_ble_eq_true rfl)) dX1_rise_14 ⟨Nat.le_of_ble_eq_true rfl, Nat.le_of_ble_eq_true rfl⟩) hS (fun locs hS => ?_)
    refine lv_aload_n hx hb dX1_rise_17 rfl (lv_at hl 1 rfl) ?_
    refine lv_iload_n hx hb dX1_rise_18 rfl (lv_at hl 0 rfl) ?_
    refine lv_iconst (v := (1 : Int32)) hx hb dX1_rise_19 (by decide) ?_
    refine lv_iadd hx hb dX1_rise_20 ?_
    have hPc : va_P D vwCl (wF [gB cL b0 b1 x0]) s.heap := hP.sub [0, 1] rfl
    refine c_Rl (va_runV (As := [.int (((4 : Int32) - (2 : Int32)) + (1 : Int32))]) (rest := [.long (F1_temperatureOf x0 ((4 : Int32) - (2 : Int32)))]) ⟨hx, hb, hml, hown, hts⟩ (m1_temperatureOf l D cI cL cP b0 b1 x0 (((4 : Int32) - (2 : Int32)) + (1 : Int32)) s.heap) (cwV 1 hts gX1_rise_X1_temperatureOf rfl rfl rfl (by decide +kernel) ⟨Nat.le_of_ble_eq_true rfl, Nat.le_of_ble_eq_true rfl⟩) (preR_V (q := (RX1, TX1, 2)) (q0 := 0) hQ hPc rfl rfl) rfl rfl hl.1 rfl (lv_room (Nat.le_of_ble_eq_true rfl)) dX1_rise_21 ⟨Nat.le_of_ble_eq_true rfl, Nat.le_of_ble_eq_true rfl⟩) hS (fun locs hS => ?_)
    refine w_lge (tgt := 75) hx hb dX1_rise_24 dX1_rise_25 (by decide) (fun c2 => ?_) (fun c2 => ?_)
    · have c2 : (F1_temperatureOf x0 (((4 : Int32) - (2 : Int32)) + (1 : Int32))) ≤ (F1_temperatureOf x0 ((4 : Int32) - (2 : Int32))) := c2
      exact kk x0.1 ((Eq.trans (if_pos c2) (rfl)).symm) s.heap locs hP hD hS ls (lv_sub hl [0, 1] rfl)
    · have c2 : ¬ ((F1_temperatureOf x0 (((4 : Int32) - (2 : Int32)) + (1 : Int32))) ≤ (F1_temperatureOf x0 ((4 : Int32) - (2 : Int32)))) := c2
      refine lv_aload_n hx hb dX1_rise_28 rfl (lv_at hl 1 rfl) ?_
      refine va_get (D := D) (ci := 1) (v := .ref b1) (C := RX1) (T := TX1) (N := 2) hx hb hts hinX1 hown hQ.1 hP 0 rfl rfl 0 (by decide) (hts (.fieldLink RX1 11 "HeatPumpPlant$Buffer" "energies" "[J") (List.mem_of_getElem? (i := 1) rfl)) (fun _ h9 => h9) rfl dX1_rise_29 ?_
      refine lv_iload_n hx hb dX1_rise_32 rfl (lv_at hl 0 rfl) ?_
      refine w_lald (f := x0.1) (j := 2) hx hb hQ.1 hP 1 1 rfl rfl (by decide) (by omega) (by decide) dX1_rise_33 ?_
      refine lv_aload_n hx hb dX1_rise_34 rfl (lv_at hl 1 rfl) ?_
      refine va_get (D := D) (ci := 1) (v := .ref b1) (C := RX1) (T := TX1) (N := 2) hx hb hts hinX1 hown hQ.1 hP 0 rfl rfl 0 (by decide) (hts (.fieldLink RX1 11 "HeatPumpPlant$Buffer" "energies" "[J") (List.mem_of_getElem? (i := 1) rfl)) (fun _ h9 => h9) rfl dX1_rise_35 ?_
      refine lv_iload_n hx hb dX1_rise_38 rfl (lv_at hl 0 rfl) ?_
      refine lv_iconst (v := (1 : Int32)) hx hb dX1_rise_39 (by decide) ?_
      refine lv_iadd hx hb dX1_rise_40 ?_
      refine w_lald (f := x0.1) (j := 3) hx hb hQ.1 hP 1 1 rfl rfl (by decide) (by omega) (by decide) dX1_rise_41 ?_
      refine lv_ladd hx hb dX1_rise_42 ?_
      refine lv_lstore_n (lv' := [(2, .long ((x0.1 2) + (x0.1 3))), (1, .int ((4 : Int32) - (2 : Int32))), (0, .ref b0)]) hx hb dX1_rise_43 rfl hl (by decide) rfl (fun ls hl => ?_)
      refine lv_aload_n hx hb dX1_rise_44 rfl (lv_at hl 2 rfl) ?_
      refine va_get (D := D) (ci := 1) (v := .ref b1) (C := RX1) (T := TX1) (N := 2) hx hb hts hinX1 hown hQ.1 hP 0 rfl rfl 0 (by decide) (hts (.fieldLink RX1 11 "HeatPumpPlant$Buffer" "energies" "[J") (List.mem_of_getElem? (i := 1) rfl)) (fun _ h9 => h9) rfl dX1_rise_45 ?_
      refine lv_iload_n hx hb dX1_rise_48 rfl (lv_at hl 1 rfl) ?_
      refine lv_iconst (v := (1 : Int32)) hx hb dX1_rise_49 (by decide) ?_
      refine lv_iadd hx hb dX1_rise_50 ?_
      refine lv_lload_n hx hb dX1_rise_51 rfl (lv_at hl 0 rfl) ?_
      refine lv_ldc2 (own := RX1) (index := 45) (v := (2 : Int64)) hx hb hown (hts (.constantLong RX1 45 (2)) (List.mem_of_getElem? (i := 2) rfl)) dX1_rise_52 ?_
      have hPc : va_P D vwCl (wF []) s.heap := hP.sub [] rfl
      refine c_Rl (va_runSN (As := [.long ((x0.1 2) + (x0.1 3)), .long (2 : Int64)]) (rest := [.int (((4 : Int32) - (2 : Int32)) + (1 : Int32)), .ref b1]) ⟨hx, hb, hml, hown, hts⟩ (m10_div l D cI cL cP ((x0.1 2) + (x0.1 3)) (2 : Int64) s.heap) ⟨va_cnB 2 hts gX1_rise_X10_div_n23 rfl rfl rfl (hQ.2 (RX1, 23, yX10_div, "HeatPumpPlant") (List.mem_of_getElem? (i := 15) rfl)) (hts (.initialized RX10) (List.mem_of_getElem? (i := 11) rfl)) (by decide +kernel) ⟨Nat.le_of_ble_eq_true rfl, Nat.le_of_ble_eq_true rfl⟩, (hts (.static yX10_div) (List.mem_of_getElem? (i := 10) rfl)), trivial⟩ (preR_S hQ hPc) rfl rfl hl.1 rfl (lv_room (Nat.le_of_ble_eq_true rfl)) dX1_rise_55 ⟨Nat.le_of_ble_eq_true rfl, Nat.le_of_ble_eq_true rfl⟩) hS (fun locs hS => ?_)
      refine w_last (f := x0.1) (j := 3) hx hb hQ.1 hP hD hS 1 1 rfl rfl (by decide) (by omega) (by decide) dX1_rise_58 (fun H locs hP hD hS => ?_)
      have hP : va_P D vwCl (wF [gB cL b0 b1 ((vp_updL x0.1 3 (F10_div ((x0.1 2) + (x0.1 3)) (2 : Int64))), x0.2)]) H := hP
      have hD : va_D A (wF [gB cL b0 b1 ((vp_updL x0.1 3 (F10_div ((x0.1 2) + (x0.1 3)) (2 : Int64))), x0.2)]) := hD
      refine lv_aload_n hx hb dX1_rise_59 rfl (lv_at hl 2 rfl) ?_
      refine va_get (D := D) (ci := 1) (v := .ref b1) (C := RX1) (T := TX1) (N := 2) hx hb hts hinX1 hown hQ.1 hP 0 rfl rfl 0 (by decide) (hts (.fieldLink RX1 11 "HeatPumpPlant$Buffer" "energies" "[J") (List.mem_of_getElem? (i := 1) rfl)) (fun _ h9 => h9) rfl dX1_rise_60 ?_
      refine lv_iload_n hx hb dX1_rise_63 rfl (lv_at hl 1 rfl) ?_
      refine lv_lload_n hx hb dX1_rise_64 rfl (lv_at hl 0 rfl) ?_
      refine lv_aload_n hx hb dX1_rise_65 rfl (lv_at hl 2 rfl) ?_
      refine va_get (D := D) (ci := 1) (v := .ref b1) (C := RX1) (T := TX1) (N := 2) hx hb hts hinX1 hown hQ.1 hP 0 rfl rfl 0 (by decide) (hts (.fieldLink RX1 11 "HeatPumpPlant$Buffer" "energies" "[J") (List.mem_of_getElem? (i := 1) rfl)) (fun _ h9 => h9) rfl dX1_rise_66 ?_
      refine lv_iload_n hx hb dX1_rise_69 rfl (lv_at hl 1 rfl) ?_
      refine lv_iconst (v := (1 : Int32)) hx hb dX1_rise_70 (by decide) ?_
      refine lv_iadd hx hb dX1_rise_71 ?_
      refine w_lald (f := (vp_updL x0.1 3 (F10_div ((x0.1 2) + (x0.1 3)) (2 : Int64)))) (j := 3) hx hb hQ.1 hP 1 1 rfl rfl (by decide) (by omega) (by decide) dX1_rise_72 ?_
      refine w_topL (show ((vp_updL x0.1 3 (F10_div ((x0.1 2) + (x0.1 3)) (2 : Int64))) 3) = (F10_div ((x0.1 2) + (x0.1 3)) (2 : Int64)) from (w_rds _ _ _)) ?_
      refine lv_lsub hx hb dX1_rise_73 ?_
      refine w_last (f := (vp_updL x0.1 3 (F10_div ((x0.1 2) + (x0.1 3)) (2 : Int64)))) (j := 2) hx hb hQ.1 hP hD hS 1 1 rfl rfl (by decide) (by omega) (by decide) dX1_rise_74 (fun H locs hP hD hS => ?_)
      have hP : va_P D vwCl (wF [gB cL b0 b1 ((vp_updL (vp_updL x0.1 3 (F10_div ((x0.1 2) + (x0.1 3)) (2 : Int64))) 2 (((x0.1 2) + (x0.1 3)) - (F10_div ((x0.1 2) + (x0.1 3)) (2 : Int64)))), x0.2)]) H := hP
      have hD : va_D A (wF [gB cL b0 b1 ((vp_updL (vp_updL x0.1 3 (F10_div ((x0.1 2) + (x0.1 3)) (2 : Int64))) 2 (((x0.1 2) + (x0.1 3)) - (F10_div ((x0.1 2) + (x0.1 3)) (2 : Int64)))), x0.2)]) := hD
      exact kk (vp_updL (vp_updL x0.1 3 (F10_div ((x0.1 2) + (x0.1 3)) (2 : Int64))) 2 (((x0.1 2) + (x0.1 3)) - (F10_div ((x0.1 2) + (x0.1 3)) (2 : Int64)))) ((Eq.trans (if_neg c2) (rfl)).symm) H locs hP hD hS ls (lv_sub hl [1, 2] rfl)
  intro z3 hz3  H locs hP hD hS ls hl
  refine lv_iinc (v := (1 : Int32)) (lv' := [(1, .int (1 : Int32)), (0, .ref b0)]) hx hb dX1_rise_75 hl (k := 0) rfl (by decide) (by decide) rfl (fun ls hl => ?_)
  refine lv_goto (tgt := 8) hx hb dX1_rise_78 (by decide) ?_
  refine lv_iload_n hx hb dX1_rise_8 rfl (lv_at hl 0 rfl) ?_
  refine lv_if_lt (tgt := 81) hx hb dX1_rise_9 (by decide) (fun c4 => absurd c4 (by decide)) (fun _ => ?_)
  refine w_suf (P := ∀ z : (Nat → Int64), z = B1_rise_12_1 x0 z3 → ∀ (H : Heap) (locs : List Loc) (_ : va_P D vwCl (wF [gB cL b0 b1 (z, x0.2)]) H) (_ : va_D A (wF [gB cL b0 b1 (z, x0.2)])) (_ : va_S A s.heap H locs) (ls : Array Slot) (_ : lv_has ls 4 [(1, .int (1 : Int32)), (0, .ref b0)]), W p l e (headSpec wsX1_rise ({ frames := 2, cells := 0, slots := 0, locals := 46 })).room s m #[.ref b0] below meth c H locs 0 0 (MQ below (va_Qv (fun (w : SB) => w = F1_rise x0) (qW D A (fun w : SB => (wF [gB cL b0 b1 w]))) A) #[.ref b0] s 0 0 A) (F0 m 75 ls [])) (fun kk => ?_) ?_
  · refine lv_aload_n hx hb dX1_rise_12 rfl (lv_at hl 1 rfl) ?_
    refine lv_iload_n hx hb dX1_rise_13 rfl (lv_at hl 0 rfl) ?_
    have hPc : va_P D vwCl (wF [gB cL b0 b1 (z3, x0.2)]) H := hP.sub [0, 1] rfl
    refine c_Rl (va_runV (As := [.int (1 : Int32)]) (rest := []) ⟨hx, hb, hml, hown, hts⟩ (m1_temperatureOf l D cI cL cP b0 b1 (z3, x0.2) (1 : Int32) H) (cwV 1 hts gX1_rise_X1_temperatureOf rfl rfl rfl (by decide +kernel) ⟨Nat.le_of_ble_eq_true rfl, Nat.le_of_ble_eq_true rfl⟩) (preR_V (q := (RX1, TX1, 2)) (q0 := 0) hQ hPc rfl rfl) rfl rfl hl.1 rfl (lv_room (Nat.le_of_ble_eq_true rfl)) dX1_rise_14 ⟨Nat.le_of_ble_eq_true rfl, Nat.le_of_ble_eq_true rfl⟩) hS (fun locs hS => ?_)
    refine lv_aload_n hx hb dX1_rise_17 rfl (lv_at hl 1 rfl) ?_
    refine lv_iload_n hx hb dX1_rise_18 rfl (lv_at hl 0 rfl) ?_
    refine lv_iconst (v := (1 : Int32)) hx hb dX1_rise_19 (by decide) ?_
    refine lv_iadd hx hb dX1_rise_20 ?_
    have hPc : va_P D vwCl (wF [gB cL b0 b1 (z3, x0.2)]) H := hP.sub [0, 1] rfl
    refine c_Rl (va_runV (As := [.int ((1 : Int32) + (1 : Int32))]) (rest := [.long (F1_temperatureOf (z3, x0.2) (1 : Int32))]) ⟨hx, hb, hml, hown, hts⟩ (m1_temperatureOf l D cI cL cP b0 b1 (z3, x0.2) ((1 : Int32) + (1 : Int32)) H) (cwV 1 hts gX1_rise_X1_temperatureOf rfl rfl rfl (by decide +kernel) ⟨Nat.le_of_ble_eq_true rfl, Nat.le_of_ble_eq_true rfl⟩) (preR_V (q := (RX1, TX1, 2)) (q0 := 0) hQ hPc rfl rfl) rfl rfl hl.1 rfl (lv_room (Nat.le_of_ble_eq_true rfl)) dX1_rise_21 ⟨Nat.le_of_ble_eq_true rfl, Nat.le_of_ble_eq_true rfl⟩) hS (fun locs hS => ?_)
    refine w_lge (tgt := 75) hx hb dX1_rise_24 dX1_rise_25 (by decide) (fun c5 => ?_) (fun c5 => ?_)
    · have c5 : (F1_temperatureOf (z3, x0.2) ((1 : Int32) + (1 : Int32))) ≤ (F1_temperatureOf (z3, x0.2) (1 : Int32)) := c5
      exact kk z3 ((Eq.trans (if_pos c5) (rfl)).symm) H locs hP hD hS ls (lv_sub hl [0, 1] rfl)
    · have c5 : ¬ ((F1_temperatureOf (z3, x0.2) ((1 : Int32) + (1 : Int32))) ≤ (F1_temperatureOf (z3, x0.2) (1 : Int32))) := c5
      refine lv_aload_n hx hb dX1_rise_28 rfl (lv_at hl 1 rfl) ?_
      refine va_get (D := D) (ci := 1) (v := .ref b1) (C := RX1) (T := TX1) (N := 2) hx hb hts hinX1 hown hQ.1 hP 0 rfl rfl 0 (by decide) (hts (.fieldLink RX1 11 "HeatPumpPlant$Buffer" "energies" "[J") (List.mem_of_getElem? (i := 1) rfl)) (fun _ h9 => h9) rfl dX1_rise_29 ?_
      refine lv_iload_n hx hb dX1_rise_32 rfl (lv_at hl 0 rfl) ?_
      refine w_lald (f := z3) (j := 1) hx hb hQ.1 hP 1 1 rfl rfl (rfl : (1 : Int32) = nI 1) (by omega) (by decide) dX1_rise_33 ?_
      refine lv_aload_n hx hb dX1_rise_34 rfl (lv_at hl 1 rfl) ?_
      refine va_get (D := D) (ci := 1) (v := .ref b1) (C := RX1) (T := TX1) (N := 2) hx hb hts hinX1 hown hQ.1 hP 0 rfl rfl 0 (by decide) (hts (.fieldLink RX1 11 "HeatPumpPlant$Buffer" "energies" "[J") (List.mem_of_getElem? (i := 1) rfl)) (fun _ h9 => h9) rfl dX1_rise_35 ?_
      refine lv_iload_n hx hb dX1_rise_38 rfl (lv_at hl 0 rfl) ?_
      refine lv_iconst (v := (1 : Int32)) hx hb dX1_rise_39 (by decide) ?_
      refine lv_iadd hx hb dX1_rise_40 ?_
      refine w_lald (f := z3) (j := 2) hx hb hQ.1 hP 1 1 rfl rfl (by decide) (by omega) (by decide) dX1_rise_41 ?_
      refine lv_ladd hx hb dX1_rise_42 ?_
      refine lv_lstore_n (lv' := [(2, .long ((z3 1) + (z3 2))), (1, .int (1 : Int32)), (0, .ref b0)]) hx hb dX1_rise_43 rfl hl (by decide) rfl (fun ls hl => ?_)
      refine lv_aload_n hx hb dX1_rise_44 rfl (lv_at hl 2 rfl) ?_
      refine va_get (D := D) (ci := 1) (v := .ref b1) (C := RX1) (T := TX1) (N := 2) hx hb hts hinX1 hown hQ.1 hP 0 rfl rfl 0 (by decide) (hts (.fieldLink RX1 11 "HeatPumpPlant$Buffer" "energies" "[J") (List.mem_of_getElem? (i := 1) rfl)) (fun _ h9 => h9) rfl dX1_rise_45 ?_
      refine lv_iload_n hx hb dX1_rise_48 rfl (lv_at hl 1 rfl) ?_
      refine lv_iconst (v := (1 : Int32)) hx hb dX1_rise_49 (by decide) ?_
      refine lv_iadd hx hb dX1_rise_50 ?_
      refine lv_lload_n hx hb dX1_rise_51 rfl (lv_at hl 0 rfl) ?_
      refine lv_ldc2 (own := RX1) (index := 45) (v := (2 : Int64)) hx hb hown (hts (.constantLong RX1 45 (2)) (List.mem_of_getElem? (i := 2) rfl)) dX1_rise_52 ?_
      have hPc : va_P D vwCl (wF []) H := hP.sub [] rfl
      refine c_Rl (va_runSN (As := [.long ((z3 1) + (z3 2)), .long (2 : Int64)]) (rest := [.int ((1 : Int32) + (1 : Int32)), .ref b1]) ⟨hx, hb, hml, hown, hts⟩ (m10_div l D cI cL cP ((z3 1) + (z3 2)) (2 : Int64) H) ⟨va_cnB 2 hts gX1_rise_X10_div_n23 rfl rfl rfl (hQ.2 (RX1, 23, yX10_div, "HeatPumpPlant") (List.mem_of_getElem? (i := 15) rfl)) (hts (.initialized RX10) (List.mem_of_getElem? (i := 11) rfl)) (by decide +kernel) ⟨Nat.le_of_ble_eq_true rfl, Nat.le_of_ble_eq_true rfl⟩, (hts (.static yX10_div) (List.mem_of_getElem? (i := 10) rfl)), trivial⟩ (preR_S hQ hPc) rfl rfl hl.1 rfl (lv_room (Nat.le_of_ble_eq_true rfl)) dX1_rise_55 ⟨Nat.le_of_ble_eq_true rfl, Nat.le_of_ble_eq_true rfl⟩) hS (fun locs hS => ?_)
      refine w_last (f := z3) (j := 2) hx hb hQ.1 hP hD hS 1 1 rfl rfl (by decide) (by omega) (by decide) dX1_rise_58 (fun H locs hP hD hS => ?_)
      have hP : va_P D vwCl (wF [gB cL b0 b1 ((vp_updL z3 2 (F10_div ((z3 1) + (z3 2)) (2 : Int64))), x0.2)]) H := hP
      have hD : va_D A (wF [gB cL b0 b1 ((vp_updL z3 2 (F10_div ((z3 1) + (z3 2)) (2 : Int64))), x0.2)]) := hD
      refine lv_aload_n hx hb dX1_rise_59 rfl (lv_at hl 2 rfl) ?_
      refine va_get (D := D) (ci := 1) (v := .ref b1) (C := RX1) (T := TX1) (N := 2) hx hb hts hinX1 hown hQ.1 hP 0 rfl rfl 0 (by decide) (hts (.fieldLink RX1 11 "HeatPumpPlant$Buffer" "energies" "[J") (List.mem_of_getElem? (i := 1) rfl)) (fun _ h9 => h9) rfl dX1_rise_60 ?_
      refine lv_iload_n hx hb dX1_rise_63 rfl (lv_at hl 1 rfl) ?_
      refine lv_lload_n hx hb dX1_rise_64 rfl (lv_at hl 0 rfl) ?_
      refine lv_aload_n hx hb dX1_rise_65 rfl (lv_at hl 2 rfl) ?_
      refine va_get (D := D) (ci := 1) (v := .ref b1) (C := RX1) (T := TX1) (N := 2) hx hb hts hinX1 hown hQ.1 hP 0 rfl rfl 0 (by decide) (hts (.fieldLink RX1 11 "HeatPumpPlant$Buffer" "energies" "[J") (List.mem_of_getElem? (i := 1) rfl)) (fun _ h9 => h9) rfl dX1_rise_66 ?_
      refine lv_iload_n hx hb dX1_rise_69 rfl (lv_at hl 1 rfl) ?_
      refine lv_iconst (v := (1 : Int32)) hx hb dX1_rise_70 (by decide) ?_
      refine lv_iadd hx hb dX1_rise_71 ?_
      refine w_lald (f := (vp_updL z3 2 (F10_div ((z3 1) + (z3 2)) (2 : Int64)))) (j := 2) hx hb hQ.1 hP 1 1 rfl rfl (by decide) (by omega) (by decide) dX1_rise_72 ?_
      refine w_topL (show ((vp_updL z3 2 (F10_div ((z3 1) + (z3 2)) (2 : Int64))) 2) = (F10_div ((z3 1) + (z3 2)) (2 : Int64)) from (w_rds _ _ _)) ?_
      refine lv_lsub hx hb dX1_rise_73 ?_
      refine w_last (f := (vp_updL z3 2 (F10_div ((z3 1) + (z3 2)) (2 : Int64)))) (j := 1) hx hb hQ.1 hP hD hS 1 1 rfl rfl (rfl : (1 : Int32) = nI 1) (by omega) (by decide) dX1_rise_74 (fun H locs hP hD hS => ?_)
      have hP : va_P D vwCl (wF [gB cL b0 b1 ((vp_updL (vp_updL z3 2 (F10_div ((z3 1) + (z3 2)) (2 : Int64))) 1 (((z3 1) + (z3 2)) - (F10_div ((z3 1) + (z3 2)) (2 : Int64)))), x0.2)]) H := hP
      have hD : va_D A (wF [gB cL b0 b1 ((vp_updL (vp_updL z3 2 (F10_div ((z3 1) + (z3 2)) (2 : Int64))) 1 (((z3 1) + (z3 2)) - (F10_div ((z3 1) + (z3 2)) (2 : Int64)))), x0.2)]) := hD
      exact kk (vp_updL (vp_updL z3 2 (F10_div ((z3 1) + (z3 2)) (2 : Int64))) 1 (((z3 1) + (z3 2)) - (F10_div ((z3 1) + (z3 2)) (2 : Int64)))) ((Eq.trans (if_neg c5) (rfl)).symm) H locs hP hD hS ls (lv_sub hl [1, 2] rfl)
  intro z6 hz6  H locs hP hD hS ls hl
  refine lv_iinc (v := (0 : Int32)) (lv' := [(1, .int (0 : Int32)), (0, .ref b0)]) hx hb dX1_rise_75 hl (k := 0) rfl (by decide) (by decide) rfl (fun ls hl => ?_)
  refine lv_goto (tgt := 8) hx hb dX1_rise_78 (by decide) ?_
  refine lv_iload_n hx hb dX1_rise_8 rfl (lv_at hl 0 rfl) ?_
  refine lv_if_lt (tgt := 81) hx hb dX1_rise_9 (by decide) (fun c7 => absurd c7 (by decide)) (fun _ => ?_)
  refine w_suf (P := ∀ z : (Nat → Int64), z = B1_rise_12_2 x0 z3 z6 → ∀ (H : Heap) (locs : List Loc) (_ : va_P D vwCl (wF [gB cL b0 b1 (z, x0.2)]) H) (_ : va_D A (wF [gB cL b0 b1 (z, x0.2)])) (_ : va_S A s.heap H locs) (ls : Array Slot) (_ : lv_has ls 4 [(1, .int (0 : Int32)), (0, .ref b0)]), W p l e (headSpec wsX1_rise ({ frames := 2, cells := 0, slots := 0, locals := 46 })).room s m #[.ref b0] below meth c H locs 0 0 (MQ below (va_Qv (fun (w : SB) => w = F1_rise x0) (qW D A (fun w : SB => (wF [gB cL b0 b1 w]))) A) #[.ref b0] s 0 0 A) (F0 m 75 ls [])) (fun kk => ?_) ?_
  · refine lv_aload_n hx hb dX1_rise_12 rfl (lv_at hl 1 rfl) ?_
    refine lv_iload_n hx hb dX1_rise_13 rfl (lv_at hl 0 rfl) ?_
    have hPc : va_P D vwCl (wF [gB cL b0 b1 (z6, x0.2)]) H := hP.sub [0, 1] rfl
    refine c_Rl (va_runV (As := [.int (0 : Int32)]) (rest := []) ⟨hx, hb, hml, hown, hts⟩ (m1_temperatureOf l D cI cL cP b0 b1 (z6, x0.2) (0 : Int32) H) (cwV 1 hts gX1_rise_X1_temperatureOf rfl rfl rfl (by decide +kernel) ⟨Nat.le_of_ble_eq_true rfl, Nat.le_of_ble_eq_true rfl⟩) (preR_V (q := (RX1, TX1, 2)) (q0 := 0) hQ hPc rfl rfl) rfl rfl hl.1 rfl (lv_room (Nat.le_of_ble_eq_true rfl)) dX1_rise_14 ⟨Nat.le_of_ble_eq_true rfl, Nat.le_of_ble_eq_true rfl⟩) hS (fun locs hS => ?_)
    refine lv_aload_n hx hb dX1_rise_17 rfl (lv_at hl 1 rfl) ?_
    refine lv_iload_n hx hb dX1_rise_18 rfl (lv_at hl 0 rfl) ?_
    refine lv_iconst (v := (1 : Int32)) hx hb dX1_rise_19 (by decide) ?_
    refine lv_iadd hx hb dX1_rise_20 ?_
    have hPc : va_P D vwCl (wF [gB cL b0 b1 (z6, x0.2)]) H := hP.sub [0, 1] rfl
    refine c_Rl (va_runV (As := [.int ((0 : Int32) + (1 : Int32))]) (rest := [.long (F1_temperatureOf (z6, x0.2) (0 : Int32))]) ⟨hx, hb, hml, hown, hts⟩ (m1_temperatureOf l D cI cL cP b0 b1 (z6, x0.2) ((0 : Int32) + (1 : Int32)) H) (cwV 1 hts gX1_rise_X1_temperatureOf rfl rfl rfl (by decide +kernel) ⟨Nat.le_of_ble_eq_true rfl, Nat.le_of_ble_eq_true rfl⟩) (preR_V (q := (RX1, TX1, 2)) (q0 := 0) hQ hPc rfl rfl) rfl rfl hl.1 rfl (lv_room (Nat.le_of_ble_eq_true rfl)) dX1_rise_21 ⟨Nat.le_of_ble_eq_true rfl, Nat.le_of_ble_eq_true rfl⟩) hS (fun locs hS => ?_)
    refine w_lge (tgt := 75) hx hb dX1_rise_24 dX1_rise_25 (by decide) (fun c8 => ?_) (fun c8 => ?_)
    · have c8 : (F1_temperatureOf (z6, x0.2) ((0 : Int32) + (1 : Int32))) ≤ (F1_temperatureOf (z6, x0.2) (0 : Int32)) := c8
      exact kk z6 ((Eq.trans (if_pos c8) (rfl)).symm) H locs hP hD hS ls (lv_sub hl [0, 1] rfl)
    · have c8 : ¬ ((F1_temperatureOf (z6, x0.2) ((0 : Int32) + (1 : Int32))) ≤ (F1_temperatureOf (z6, x0.2) (0 : Int32))) := c8
      refine lv_aload_n hx hb dX1_rise_28 rfl (lv_at hl 1 rfl) ?_
      refine va_get (D := D) (ci := 1) (v := .ref b1) (C := RX1) (T := TX1) (N := 2) hx hb hts hinX1 hown hQ.1 hP 0 rfl rfl 0 (by decide) (hts (.fieldLink RX1 11 "HeatPumpPlant$Buffer" "energies" "[J") (List.mem_of_getElem? (i := 1) rfl)) (fun _ h9 => h9) rfl dX1_rise_29 ?_
      refine lv_iload_n hx hb dX1_rise_32 rfl (lv_at hl 0 rfl) ?_
      refine w_lald (f := z6) (j := 0) hx hb hQ.1 hP 1 1 rfl rfl (rfl : (0 : Int32) = nI 0) (by omega) (by decide) dX1_rise_33 ?_
      refine lv_aload_n hx hb dX1_rise_34 rfl (lv_at hl 1 rfl) ?_
      refine va_get (D := D) (ci := 1) (v := .ref b1) (C := RX1) (T := TX1) (N := 2) hx hb hts hinX1 hown hQ.1 hP 0 rfl rfl 0 (by decide) (hts (.fieldLink RX1 11 "HeatPumpPlant$Buffer" "energies" "[J") (List.mem_of_getElem? (i := 1) rfl)) (fun _ h9 => h9) rfl dX1_rise_35 ?_
      refine lv_iload_n hx hb dX1_rise_38 rfl (lv_at hl 0 rfl) ?_
      refine lv_iconst (v := (1 : Int32)) hx hb dX1_rise_39 (by decide) ?_
      refine lv_iadd hx hb dX1_rise_40 ?_
      refine w_lald (f := z6) (j := 1) hx hb hQ.1 hP 1 1 rfl rfl (by decide) (by omega) (by decide) dX1_rise_41 ?_
      refine lv_ladd hx hb dX1_rise_42 ?_
      refine lv_lstore_n (lv' := [(2, .long ((z6 0) + (z6 1))), (1, .int (0 : Int32)), (0, .ref b0)]) hx hb dX1_rise_43 rfl hl (by decide) rfl (fun ls hl => ?_)
      refine lv_aload_n hx hb dX1_rise_44 rfl (lv_at hl 2 rfl) ?_
      refine va_get (D := D) (ci := 1) (v := .ref b1) (C := RX1) (T := TX1) (N := 2) hx hb hts hinX1 hown hQ.1 hP 0 rfl rfl 0 (by decide) (hts (.fieldLink RX1 11 "HeatPumpPlant$Buffer" "energies" "[J") (List.mem_of_getElem? (i := 1) rfl)) (fun _ h9 => h9) rfl dX1_rise_45 ?_
      refine lv_iload_n hx hb dX1_rise_48 rfl (lv_at hl 1 rfl) ?_
      refine lv_iconst (v := (1 : Int32)) hx hb dX1_rise_49 (by decide) ?_
      refine lv_iadd hx hb dX1_rise_50 ?_
      refine lv_lload_n hx hb dX1_rise_51 rfl (lv_at hl 0 rfl) ?_
      refine lv_ldc2 (own := RX1) (index := 45) (v := (2 : Int64)) hx hb hown (hts (.constantLong RX1 45 (2)) (List.mem_of_getElem? (i := 2) rfl)) dX1_rise_52 ?_
      have hPc : va_P D vwCl (wF []) H := hP.sub [] rfl
      refine c_Rl (va_runSN (As := [.long ((z6 0) + (z6 1)), .long (2 : Int64)]) (rest := [.int ((0 : Int32) + (1 : Int32)), .ref b1]) ⟨hx, hb, hml, hown, hts⟩ (m10_div l D cI cL cP ((z6 0) + (z6 1)) (2 : Int64) H) ⟨va_cnB 2 hts gX1_rise_X10_div_n23 rfl rfl rfl (hQ.2 (RX1, 23, yX10_div, "HeatPumpPlant") (List.mem_of_getElem? (i := 15) rfl)) (hts (.initialized RX10) (List.mem_of_getElem? (i := 11) rfl)) (by decide +kernel) ⟨Nat.le_of_ble_eq_true rfl, Nat.le_of_ble_eq_true rfl⟩, (hts (.static yX10_div) (List.mem_of_getElem? (i := 10) rfl)), trivial⟩ (preR_S hQ hPc) rfl rfl hl.1 rfl (lv_room (Nat.le_of_ble_eq_true rfl)) dX1_rise_55 ⟨Nat.le_of_ble_eq_true rfl, Nat.le_of_ble_eq_true rfl⟩) hS (fun locs hS => ?_)
      refine w_last (f := z6) (j := 1) hx hb hQ.1 hP hD hS 1 1 rfl rfl (by decide) (by omega) (by decide) dX1_rise_58 (fun H locs hP hD hS => ?_)
      have hP : va_P D vwCl (wF [gB cL b0 b1 ((vp_updL z6 1 (F10_div ((z6 0) + (z6 1)) (2 : Int64))), x0.2)]) H := hP
      have hD : va_D A (wF [gB cL b0 b1 ((vp_updL z6 1 (F10_div ((z6 0) + (z6 1)) (2 : Int64))), x0.2)]) := hD
      refine lv_aload_n hx hb dX1_rise_59 rfl (lv_at hl 2 rfl) ?_
      refine va_get (D := D) (ci := 1) (v := .ref b1) (C := RX1) (T := TX1) (N := 2) hx hb hts hinX1 hown hQ.1 hP 0 rfl rfl 0 (by decide) (hts (.fieldLink RX1 11 "HeatPumpPlant$Buffer" "energies" "[J") (List.mem_of_getElem? (i := 1) rfl)) (fun _ h9 => h9) rfl dX1_rise_60 ?_
      refine lv_iload_n hx hb dX1_rise_63 rfl (lv_at hl 1 rfl) ?_
      refine lv_lload_n hx hb dX1_rise_64 rfl (lv_at hl 0 rfl) ?_
      refine lv_aload_n hx hb dX1_rise_65 rfl (lv_at hl 2 rfl) ?_
      refine va_get (D := D) (ci := 1) (v := .ref b1) (C := RX1) (T := TX1) (N := 2) hx hb hts hinX1 hown hQ.1 hP 0 rfl rfl 0 (by decide) (hts (.fieldLink RX1 11 "HeatPumpPlant$Buffer" "energies" "[J") (List.mem_of_getElem? (i := 1) rfl)) (fun _ h9 => h9) rfl dX1_rise_66 ?_
      refine lv_iload_n hx hb dX1_rise_69 rfl (lv_at hl 1 rfl) ?_
      refine lv_iconst (v := (1 : Int32)) hx hb dX1_rise_70 (by decide) ?_
      refine lv_iadd hx hb dX1_rise_71 ?_
      refine w_lald (f := (vp_updL z6 1 (F10_div ((z6 0) + (z6 1)) (2 : Int64)))) (j := 1) hx hb hQ.1 hP 1 1 rfl rfl (by decide) (by omega) (by decide) dX1_rise_72 ?_
      refine w_topL (show ((vp_updL z6 1 (F10_div ((z6 0) + (z6 1)) (2 : Int64))) 1) = (F10_div ((z6 0) + (z6 1)) (2 : Int64)) from (w_rds _ _ _)) ?_
      refine lv_lsub hx hb dX1_rise_73 ?_
      refine w_last (f := (vp_updL z6 1 (F10_div ((z6 0) + (z6 1)) (2 : Int64)))) (j := 0) hx hb hQ.1 hP hD hS 1 1 rfl rfl (rfl : (0 : Int32) = nI 0) (by omega) (by decide) dX1_rise_74 (fun H locs hP hD hS => ?_)
      have hP : va_P D vwCl (wF [gB cL b0 b1 ((vp_updL (vp_updL z6 1 (F10_div ((z6 0) + (z6 1)) (2 : Int64))) 0 (((z6 0) + (z6 1)) - (F10_div ((z6 0) + (z6 1)) (2 : Int64)))), x0.2)]) H := hP
      have hD : va_D A (wF [gB cL b0 b1 ((vp_updL (vp_updL z6 1 (F10_div ((z6 0) + (z6 1)) (2 : Int64))) 0 (((z6 0) + (z6 1)) - (F10_div ((z6 0) + (z6 1)) (2 : Int64)))), x0.2)]) := hD
      exact kk (vp_updL (vp_updL z6 1 (F10_div ((z6 0) + (z6 1)) (2 : Int64))) 0 (((z6 0) + (z6 1)) - (F10_div ((z6 0) + (z6 1)) (2 : Int64)))) ((Eq.trans (if_neg c8) (rfl)).symm) H locs hP hD hS ls (lv_sub hl [1, 2] rfl)
  intro z9 hz9  H locs hP hD hS ls hl
  refine lv_iinc (v := (-1 : Int32)) (lv' := [(1, .int (-1 : Int32)), (0, .ref b0)]) hx hb dX1_rise_75 hl (k := 0) rfl (by decide) (by decide) rfl (fun ls hl => ?_)
  refine lv_goto (tgt := 8) hx hb dX1_rise_78 (by decide) ?_
  refine lv_iload_n hx hb dX1_rise_8 rfl (lv_at hl 0 rfl) ?_
  refine lv_if_lt (tgt := 81) hx hb dX1_rise_9 (by decide) (fun _ => ?_) (fun c10 => absurd c10 (by decide))
  exact W.vret hx hb hr (fun t ht hW => ⟨⟨(z9, x0.2), rfl, ((Eq.trans (congrArg (K1_rise_1 x0) hz3.symm) (Eq.trans (congrArg (K1_rise_2 x0 z3) hz6.symm) (Eq.trans (congrArg (K1_rise_3 x0 z3 z6) hz9.symm) (rfl)))).symm), by rw [ht]; exact hP, hD⟩, hS.F ht⟩) hS.2.2 dX1_rise_81
def L1_conduct_2 (x0 : SB) (p1 : Int32) : Nat → Nat → (Nat → Int64) → Nat × (Nat → Int64)
  | 0, _, _ => default
  | fu + 1, i, E => (if 3 ≤ i then (i, E) else (if ((F1_temperatureOf (E, x0.2) (nI i)) - (F1_temperatureOf (E, x0.2) ((nI i) + (1 : Int32)))) ≤ (0 : Int64) then ((L1_conduct_2 x0 p1 fu) (i + 1) E) else ((L1_conduct_2 x0 p1 fu) (i + 1) (vp_updL (vp_updL E i ((E i) - (F10_div (((F1_temperatureOf (E, x0.2) (nI i)) - (F1_temperatureOf (E, x0.2) ((nI i) + (1 : Int32)))) * p1.toInt64) (10 : Int64)))) (i + 1) (((vp_updL E i ((E i) - (F10_div (((F1_temperatureOf (E, x0.2) (nI i)) - (F1_temperatureOf (E, x0.2) ((nI i) + (1 : Int32)))) * p1.toInt64) (10 : Int64)))) (i + 1)) + (F10_div (((F1_temperatureOf (E, x0.2) (nI i)) - (F1_temperatureOf (E, x0.2) ((nI i) + (1 : Int32)))) * p1.toInt64) (10 : Int64)))))))
def K1_conduct_1 (x0 : SB) (p1 : Int32) (z3 : Nat × (Nat → Int64)) : SB := (z3.2, x0.2)
def F1_conduct (x0 : SB) (p1 : Int32) : SB := (K1_conduct_1 x0 p1 (L1_conduct_2 x0 p1 4 0 x0.1))
set_option maxHeartbeats 4000000 in
set_option maxRecDepth 100000 in
theorem m1_conduct (l : Launch) (D : va_G) (cI cL cP : ClassId) (b0 : Nat) (b1 : Nat) (x0 : SB) (p1 : Int32) (sz : Nat) : Met l yX1_conduct wsX1_conduct ({ frames := 2, cells := 0, slots := 0, locals := 46 }) (va_Pc [.ref b0, .int p1] (pM D cI cL cP sz (wF [gB cL b0 b1 x0]))) (va_Qv (fun (w : SB) => w = F1_conduct x0 p1) (qW D (va_A (wF [gB cL b0 b1 x0]) sz) (fun w : SB => (wF [gB cL b0 b1 w]))) (va_A (wF [gB cL b0 b1 x0]) sz)) 0 0 (va_A (wF [gB cL b0 b1 x0]) sz) := by
  refine Met.ofW (cc := cX1_conduct) (maxL := 7) (ret := none) (by decide) rfl ?_
  intro p e s m args below meth c s₁ B hml hv
  obtain ⟨rfl, hsz, hP, hQ, hD0⟩ := hv
  have hx := B.exec
  have hb := B.bytes
  have hr := B.returns
  have hts := atoms_spec (ws := wsX1_conduct) B.pre
  have hown : s.vm.findClass RX1 = some m.cls := findClass_of_methodNamed B.named
  have hlocks := B.notSynchronized
  subst hsz
  have hD := hD0.self (sz := s.heap.size)
  generalize hAe : va_A (wF [gB cL b0 b1 x0]) s.heap.size = A at hD ⊢
  have hA : ∀ q : Nat, s.heap.size ≤ q → A q := fun q h => by rw [← hAe]; exact Or.inr h
  have hS : va_S A s.heap s.heap [] := va_S.rf
  have hP : va_P D vwCl (wF [gB cL b0 b1 x0]) s.heap := hP
  have hl := lv_entry ([.ref b0, .int p1]) (n := 7) (Nat.le_of_ble_eq_true rfl)
  rw [lg_entry_eq]
  generalize (lg_sl ([.ref b0, .int p1]) ++ List.replicate (7 - (lg_sl ([.ref b0, .int p1])).length) Slot.unset).toArray = ls at hl ⊢
  have hl : lv_has ls 7 [(0, .ref b0), (1, .int p1)] := hl
  have hinX1 : ∀ w ∈ wsX10, w ∈ wsX1_conduct := fun _ h => List.mem_cons_of_mem _ (List.mem_append_right _ h)
  refine lv_iconst (v := (0 : Int32)) hx hb dX1_conduct_0 (by decide) ?_
  refine lv_istore_n (lv' := [(2, .int (0 : Int32)), (0, .ref b0), (1, .int p1)]) hx hb dX1_conduct_1 rfl hl (by decide) rfl (fun ls hl => ?_)
  have loop2 : ∀ (fu : Nat) (i : Nat) (E : Nat → Int64) (hi : i ≤ 3) (hm : 3 - i < fu) (kk : ∀ z : Nat × (Nat → Int64), z = L1_conduct_2 x0 p1 fu i E → ((z.1) ≤ 3) → ∀ (H : Heap) (locs : List Loc) (_ : va_P D vwCl (wF [gB cL b0 b1 (z.2, x0.2)]) H) (_ : va_D A (wF [gB cL b0 b1 (z.2, x0.2)])) (_ : va_S A s.heap H locs) (ls : Array Slot) (_ : lv_has ls 7 [(2, .int (nI z.1)), (0, .ref b0), (1, .int p1)]), W p l e (headSpec wsX1_conduct ({ frames := 2, cells := 0, slots := 0, locals := 46 })).room s m #[.ref b0, .int p1] below meth c H locs 0 0 (MQ below (va_Qv (fun (w : SB) => w = F1_conduct x0 p1) (qW D A (fun w : SB => (wF [gB cL b0 b1 w]))) A) #[.ref b0, .int p1] s 0 0 A) (F0 m 75 ls [])), ∀ (H : Heap) (locs : List Loc) (_ : va_P D vwCl (wF [gB cL b0 b1 (E, x0.2)]) H) (_ : va_D A (wF [gB cL b0 b1 (E, x0.2)])) (_ : va_S A s.heap H locs) (ls : Array Slot) (_ : lv_has ls 7 [(2, .int (nI i)), (0, .ref b0), (1, .int p1)]), W p l e (headSpec wsX1_conduct ({ frames := 2, cells := 0, slots := 0, locals := 46 })).room s m #[.ref b0, .int p1] below meth c H locs 0 0 (MQ below (va_Qv (fun (w : SB) => w = F1_conduct x0 p1) (qW D A (fun w : SB => (wF [gB cL b0 b1 w]))) A) #[.ref b0, .int p1] s 0 0 A) (F0 m 2 ls []) := by
    intro fu
    induction fu with
    | zero => intro i E hi hm; exact absurd hm (by omega)
    | succ fu ih =>
      intro i E hi hm kk H locs hP hD hS ls hl
      refine lv_iload_n hx hb dX1_conduct_2 rfl (lv_at hl 0 rfl) ?_
      refine lv_aload_n hx hb dX1_conduct_3 rfl (lv_at hl 1 rfl) ?_
      refine va_get (D := D) (ci := 1) (v := .ref b1) (C := RX1) (T := TX1) (N := 2) hx hb hts hinX1 hown hQ.1 hP 0 rfl rfl 0 (by decide) (hts (.fieldLink RX1 11 "HeatPumpPlant$Buffer" "energies" "[J") (List.mem_of_getElem? (i := 1) rfl)) (fun _ h9 => h9) rfl dX1_conduct_4 ?_
      refine va_alen (v := (4 : Int32)) hx hb hQ.1 hP 1 1 rfl rfl rfl dX1_conduct_7 ?_
      refine lv_iconst (v := (1 : Int32)) hx hb dX1_conduct_8 (by decide) ?_
      refine lv_isub hx hb dX1_conduct_9 ?_
      refine lv_icmp_ge (tgt := 75) hx hb dX1_conduct_10 (by decide) (fun c1 => ?_) (fun c1 => ?_)
      · have c1 : 3 ≤ i := (nI_leI (a := 3) (b := i) (by omega) (by omega)).mp c1
        exact kk (i, E) ((Eq.trans (if_pos c1) (rfl)).symm) hi H locs hP hD hS ls (lv_sub hl [0, 1, 2] rfl)
      · have c1 : ¬ (3 ≤ i) := fun h9 => c1 ((nI_leI (a := 3) (b := i) (by omega) (by omega)).mpr h9)
        refine lv_aload_n hx hb dX1_conduct_13 rfl (lv_at hl 1 rfl) ?_
        refine lv_iload_n hx hb dX1_conduct_14 rfl (lv_at hl 0 rfl) ?_
        have hPc : va_P D vwCl (wF [gB cL b0 b1 (E, x0.2)]) H := hP.sub [0, 1] rfl
        refine c_Rl (va_runV (As := [.int (nI i)]) (rest := []) ⟨hx, hb, hml, hown, hts⟩ (m1_temperatureOf l D cI cL cP b0 b1 (E, x0.2) (nI i) H) (cwV 1 hts gX1_conduct_X1_temperatureOf rfl rfl rfl (by decide +kernel) ⟨Nat.le_of_ble_eq_true rfl, Nat.le_of_ble_eq_true rfl⟩) (preR_V (q := (RX1, TX1, 2)) (q0 := 0) hQ hPc rfl rfl) rfl rfl hl.1 rfl (lv_room (Nat.le_of_ble_eq_true rfl)) dX1_conduct_15 ⟨Nat.le_of_ble_eq_true rfl, Nat.le_of_ble_eq_true rfl⟩) hS (fun locs hS => ?_)
        refine lv_aload_n hx hb dX1_conduct_18 rfl (lv_at hl 1 rfl) ?_
        refine lv_iload_n hx hb dX1_conduct_19 rfl (lv_at hl 0 rfl) ?_
        refine lv_iconst (v := (1 : Int32)) hx hb dX1_conduct_20 (by decide) ?_
        refine lv_iadd hx hb dX1_conduct_21 ?_
        have hPc : va_P D vwCl (wF [gB cL b0 b1 (E, x0.2)]) H := hP.sub [0, 1] rfl
        refine c_Rl (va_runV (As := [.int ((nI i) + (1 : Int32))]) (rest := [.long (F1_temperatureOf (E, x0.2) (nI i))]) ⟨hx, hb, hml, hown, hts⟩ (m1_temperatureOf l D cI cL cP b0 b1 (E, x0.2) ((nI i) + (1 : Int32)) H) (cwV 1 hts gX1_conduct_X1_temperatureOf rfl rfl rfl (by decide +kernel) ⟨Nat.le_of_ble_eq_true rfl, Nat.le_of_ble_eq_true rfl⟩) (preR_V (q := (RX1, TX1, 2)) (q0 := 0) hQ hPc rfl rfl) rfl rfl hl.1 rfl (lv_room (Nat.le_of_ble_eq_true rfl)) dX1_conduct_22 ⟨Nat.le_of_ble_eq_true rfl, Nat.le_of_ble_eq_true rfl⟩) hS (fun locs hS => ?_)
        refine lv_lsub hx hb dX1_conduct_25 ?_
        refine lv_lstore_n (lv' := [(3, .long ((F1_temperatureOf (E, x0.2) (nI i)) - (F1_temperatureOf (E, x0.2) ((nI i) + (1 : Int32))))), (2, .int (nI i)), (0, .ref b0), (1, .int p1)]) hx hb dX1_conduct_26 rfl hl (by decide) rfl (fun ls hl => ?_)
        refine lv_lload_n hx hb dX1_conduct_27 rfl (lv_at hl 0 rfl) ?_
        refine lv_lconst (v := (0 : Int64)) hx hb dX1_conduct_28 rfl ?_
        refine w_lle (tgt := 69) hx hb dX1_conduct_29 dX1_conduct_30 (by decide) (fun c2 => ?_) (fun c2 => ?_)
        · have c2 : ((F1_temperatureOf (E, x0.2) (nI i)) - (F1_temperatureOf (E, x0.2) ((nI i) + (1 : Int32)))) ≤ (0 : Int64) := c2
          refine lv_iinc (v := (nI (i + 1))) (lv' := [(2, .int (nI (i + 1))), (3, .long ((F1_temperatureOf (E, x0.2) (nI i)) - (F1_temperatureOf (E, x0.2) ((nI i) + (1 : Int32))))), (0, .ref b0), (1, .int p1)]) hx hb dX1_conduct_69 hl (k := 1) rfl (nI_add i 1) (by decide) rfl (fun ls hl => ?_)
          refine lv_goto (tgt := 2) hx hb dX1_conduct_72 (by decide) ?_
          have hP : va_P D vwCl (wF [gB cL b0 b1 (E, x0.2)]) H := hP
          have hD : va_D A (wF [gB cL b0 b1 (E, x0.2)]) := hD
          exact ih (i + 1) E (by omega) (by omega) (fun z hz => kk z (hz.trans ((Eq.trans (if_neg c1) (Eq.trans (if_pos c2) (rfl))).symm))) H locs hP hD hS ls (lv_sub hl [0, 2, 3] rfl)
        · have c2 : ¬ (((F1_temperatureOf (E, x0.2) (nI i)) - (F1_temperatureOf (E, x0.2) ((nI i) + (1 : Int32)))) ≤ (0 : Int64)) := c2
          refine lv_lload_n hx hb dX1_conduct_33 rfl (lv_at hl 0 rfl) ?_
          refine lv_iload_n hx hb dX1_conduct_34 rfl (lv_at hl 3 rfl) ?_
          refine lv_i2l hx hb dX1_conduct_35 rfl ?_
          refine lv_lmul hx hb dX1_conduct_36 ?_
          refine lv_ldc2 (own := RX1) (index := 43) (v := (10 : Int64)) hx hb hown (hts (.constantLong RX1 43 (10)) (List.mem_of_getElem? (i := 2) rfl)) dX1_conduct_37 ?_
          have hPc : va_P D vwCl (wF []) H := hP.sub [] rfl
          refine c_Rl (va_runSN (As := [.long (((F1_temperatureOf (E, x0.2) (nI i)) - (F1_temperatureOf (E, x0.2) ((nI i) + (1 : Int32)))) * p1.toInt64), .long (10 : Int64)]) (rest := []) ⟨hx, hb, hml, hown, hts⟩ (m10_div l D cI cL cP (((F1_temperatureOf (E, x0.2) (nI i)) - (F1_temperatureOf (E, x0.2) ((nI i) + (1 : Int32)))) * p1.toInt64) (10 : Int64) H) ⟨va_cnB 2 hts gX1_conduct_X10_div_n23 rfl rfl rfl (hQ.2 (RX1, 23, yX10_div, "HeatPumpPlant") (List.mem_of_getElem? (i := 15) rfl)) (hts (.initialized RX10) (List.mem_of_getElem? (i := 11) rfl)) (by decide +kernel) ⟨Nat.le_of_ble_eq_true rfl, Nat.le_of_ble_eq_true rfl⟩, (hts (.static yX10_div) (List.mem_of_getElem? (i := 10) rfl)), trivial⟩ (preR_S hQ hPc) rfl rfl hl.1 rfl (lv_room (Nat.le_of_ble_eq_true rfl)) dX1_conduct_40 ⟨Nat.le_of_ble_eq_true rfl, Nat.le_of_ble_eq_true rfl⟩) hS (fun locs hS => ?_)
          refine lv_lstore (lv' := [(5, .long (F10_div (((F1_temperatureOf (E, x0.2) (nI i)) - (F1_temperatureOf (E, x0.2) ((nI i) + (1 : Int32)))) * p1.toInt64) (10 : Int64))), (3, .long ((F1_temperatureOf (E, x0.2) (nI i)) - (F1_temperatureOf (E, x0.2) ((nI i) + (1 : Int32))))), (2, .int (nI i)), (0, .ref b0), (1, .int p1)]) hx hb dX1_conduct_43 hl (by decide) rfl (fun ls hl => ?_)
          refine lv_aload_n hx hb dX1_conduct_45 rfl (lv_at hl 3 rfl) ?_
          refine va_get (D := D) (ci := 1) (v := .ref b1) (C := RX1) (T := TX1) (N := 2) hx hb hts hinX1 hown hQ.1 hP 0 rfl rfl 0 (by decide) (hts (.fieldLink RX1 11 "HeatPumpPlant$Buffer" "energies" "[J") (List.mem_of_getElem? (i := 1) rfl)) (fun _ h9 => h9) rfl dX1_conduct_46 ?_
          refine lv_iload_n hx hb dX1_conduct_49 rfl (lv_at hl 2 rfl) ?_
          refine lv_dup2_11 hx hb dX1_conduct_50 rfl rfl ?_
          refine w_lald (f := E) (j := i) hx hb hQ.1 hP 1 1 rfl rfl rfl (by omega) (by decide) dX1_conduct_51 ?_
          refine lv_lload hx hb dX1_conduct_52 (lv_at hl 0 rfl) ?_
          refine lv_lsub hx hb dX1_conduct_54 ?_
          refine w_last (f := E) (j := i) hx hb hQ.1 hP hD hS 1 1 rfl rfl rfl (by omega) (by decide) dX1_conduct_55 (fun H locs hP hD hS => ?_)
          have hP : va_P D vwCl (wF [gB cL b0 b1 ((vp_updL E i ((E i) - (F10_div (((F1_temperatureOf (E, x0.2) (nI i)) - (F1_temperatureOf (E, x0.2) ((nI i) + (1 : Int32)))) * p1.toInt64) (10 : Int64)))), x0.2)]) H := hP
          have hD : va_D A (wF [gB cL b0 b1 ((vp_updL E i ((E i) - (F10_div (((F1_temperatureOf (E, x0.2) (nI i)) - (F1_temperatureOf (E, x0.2) ((nI i) + (1 : Int32)))) * p1.toInt64) (10 : Int64)))), x0.2)]) := hD
          refine lv_aload_n hx hb dX1_conduct_56 rfl (lv_at hl 3 rfl) ?_
          refine va_get (D := D) (ci := 1) (v := .ref b1) (C := RX1) (T := TX1) (N := 2) hx hb hts hinX1 hown hQ.1 hP 0 rfl rfl 0 (by decide) (hts (.fieldLink RX1 11 "HeatPumpPlant$Buffer" "energies" "[J") (List.mem_of_getElem? (i := 1) rfl)) (fun _ h9 => h9) rfl dX1_conduct_57 ?_
          refine lv_iload_n hx hb dX1_conduct_60 rfl (lv_at hl 2 rfl) ?_
          refine lv_iconst (v := (1 : Int32)) hx hb dX1_conduct_61 (by decide) ?_
          refine lv_iadd hx hb dX1_conduct_62 ?_
          refine lv_dup2_11 hx hb dX1_conduct_63 rfl rfl ?_
          refine w_lald (f := (vp_updL E i ((E i) - (F10_div (((F1_temperatureOf (E, x0.2) (nI i)) - (F1_temperatureOf (E, x0.2) ((nI i) + (1 : Int32)))) * p1.toInt64) (10 : Int64))))) (j := (i + 1)) hx hb hQ.1 hP 1 1 rfl rfl ((congr (congrArg HAdd.hAdd (show (nI i) = nI i from rfl)) (show (1 : Int32) = nI 1 from (rfl : (1 : Int32) = nI 1))).trans (nI_add i 1)) (by omega) (by decide) dX1_conduct_64 ?_
          refine lv_lload hx hb dX1_conduct_65 (lv_at hl 0 rfl) ?_
          refine lv_ladd hx hb dX1_conduct_67 ?_
          refine w_last (f := (vp_updL E i ((E i) - (F10_div (((F1_temperatureOf (E, x0.2) (nI i)) - (F1_temperatureOf (E, x0.2) ((nI i) + (1 : Int32)))) * p1.toInt64) (10 : Int64))))) (j := (i + 1)) hx hb hQ.1 hP hD hS 1 1 rfl rfl ((congr (congrArg HAdd.hAdd (show (nI i) = nI i from rfl)) (show (1 : Int32) = nI 1 from (rfl : (1 : Int32) = nI 1))).trans (nI_add i 1)) (by omega) (by decide) dX1_conduct_68 (fun H locs hP hD hS => ?_)
          have hP : va_P D vwCl (wF [gB cL b0 b1 ((vp_updL (vp_updL E i ((E i) - (F10_div (((F1_temperatureOf (E, x0.2) (nI i)) - (F1_temperatureOf (E, x0.2) ((nI i) + (1 : Int32)))) * p1.toInt64) (10 : Int64)))) (i + 1) (((vp_updL E i ((E i) - (F10_div (((F1_temperatureOf (E, x0.2) (nI i)) - (F1_temperatureOf (E, x0.2) ((nI i) + (1 : Int32)))) * p1.toInt64) (10 : Int64)))) (i + 1)) + (F10_div (((F1_temperatureOf (E, x0.2) (nI i)) - (F1_temperatureOf (E, x0.2) ((nI i) + (1 : Int32)))) * p1.toInt64) (10 : Int64)))), x0.2)]) H := hP
          have hD : va_D A (wF [gB cL b0 b1 ((vp_updL (vp_updL E i ((E i) - (F10_div (((F1_temperatureOf (E, x0.2) (nI i)) - (F1_temperatureOf (E, x0.2) ((nI i) + (1 : Int32)))) * p1.toInt64) (10 : Int64)))) (i + 1) (((vp_updL E i ((E i) - (F10_div (((F1_temperatureOf (E, x0.2) (nI i)) - (F1_temperatureOf (E, x0.2) ((nI i) + (1 : Int32)))) * p1.toInt64) (10 : Int64)))) (i + 1)) + (F10_div (((F1_temperatureOf (E, x0.2) (nI i)) - (F1_temperatureOf (E, x0.2) ((nI i) + (1 : Int32)))) * p1.toInt64) (10 : Int64)))), x0.2)]) := hD
          refine lv_iinc (v := (nI (i + 1))) (lv' := [(2, .int (nI (i + 1))), (5, .long (F10_div (((F1_temperatureOf (E, x0.2) (nI i)) - (F1_temperatureOf (E, x0.2) ((nI i) + (1 : Int32)))) * p1.toInt64) (10 : Int64))), (3, .long ((F1_temperatureOf (E, x0.2) (nI i)) - (F1_temperatureOf (E, x0.2) ((nI i) + (1 : Int32))))), (0, .ref b0), (1, .int p1)]) hx hb dX1_conduct_69 hl (k := 2) rfl (nI_add i 1) (by decide) rfl (fun ls hl => ?_)
          refine lv_goto (tgt := 2) hx hb dX1_conduct_72 (by decide) ?_
          have hP : va_P D vwCl (wF [gB cL b0 b1 ((vp_updL (vp_updL E i ((E i) - (F10_div (((F1_temperatureOf (E, x0.2) (nI i)) - (F1_temperatureOf (E, x0.2) ((nI i) + (1 : Int32)))) * p1.toInt64) (10 : Int64)))) (i + 1) (((vp_updL E i ((E i) - (F10_div (((F1_temperatureOf (E, x0.2) (nI i)) - (F1_temperatureOf (E, x0.2) ((nI i) + (1 : Int32)))) * p1.toInt64) (10 : Int64)))) (i + 1)) + (F10_div (((F1_temperatureOf (E, x0.2) (nI i)) - (F1_temperatureOf (E, x0.2) ((nI i) + (1 : Int32)))) * p1.toInt64) (10 : Int64)))), x0.2)]) H := hP
          have hD : va_D A (wF [gB cL b0 b1 ((vp_updL (vp_updL E i ((E i) - (F10_div (((F1_temperatureOf (E, x0.2) (nI i)) - (F1_temperatureOf (E, x0.2) ((nI i) + (1 : Int32)))) * p1.toInt64) (10 : Int64)))) (i + 1) (((vp_updL E i ((E i) - (F10_div (((F1_temperatureOf (E, x0.2) (nI i)) - (F1_temperatureOf (E, x0.2) ((nI i) + (1 : Int32)))) * p1.toInt64) (10 : Int64)))) (i + 1)) + (F10_div (((F1_temperatureOf (E, x0.2) (nI i)) - (F1_temperatureOf (E, x0.2) ((nI i) + (1 : Int32)))) * p1.toInt64) (10 : Int64)))), x0.2)]) := hD
          exact ih (i + 1) (vp_updL (vp_updL E i ((E i) - (F10_div (((F1_temperatureOf (E, x0.2) (nI i)) - (F1_temperatureOf (E, x0.2) ((nI i) + (1 : Int32)))) * p1.toInt64) (10 : Int64)))) (i + 1) (((vp_updL E i ((E i) - (F10_div (((F1_temperatureOf (E, x0.2) (nI i)) - (F1_temperatureOf (E, x0.2) ((nI i) + (1 : Int32)))) * p1.toInt64) (10 : Int64)))) (i + 1)) + (F10_div (((F1_temperatureOf (E, x0.2) (nI i)) - (F1_temperatureOf (E, x0.2) ((nI i) + (1 : Int32)))) * p1.toInt64) (10 : Int64)))) (by omega) (by omega) (fun z hz => kk z (hz.trans ((Eq.trans (if_neg c1) (Eq.trans (if_neg c2) (rfl))).symm))) H locs hP hD hS ls (lv_sub hl [0, 3, 4] rfl)
  have hP : va_P D vwCl (wF [gB cL b0 b1 (x0.1, x0.2)]) s.heap := hP
  have hD : va_D A (wF [gB cL b0 b1 (x0.1, x0.2)]) := hD
  refine loop2 4 0 x0.1 (by omega) (by omega) (fun z3 hz3 hi_z3 H locs hP hD hS ls hl => ?_) s.heap [] hP hD hS ls (lv_sub hl [0, 1, 2] rfl)
  exact W.vret hx hb hr (fun t ht hW => ⟨⟨(z3.2, x0.2), rfl, ((Eq.trans (congrArg (K1_conduct_1 x0 p1) hz3.symm) (rfl)).symm), by rw [ht]; exact hP, hD⟩, hS.F ht⟩) hS.2.2 dX1_conduct_75
def K8_copyFrom_3 (x0 : SW) (x1 : SW) (z1 : SS) (z2 : SS) (z3 : SS) : SW := (z1, z2, z3)
def K8_copyFrom_2 (x0 : SW) (x1 : SW) (z1 : SS) (z2 : SS) : SW := (K8_copyFrom_3 x0 x1 z1 z2 (F10_copyRow 3 x1.2.2 x0.2.2))
def K8_copyFrom_1 (x0 : SW) (x1 : SW) (z1 : SS) : SW := (K8_copyFrom_2 x0 x1 z1 (F10_copyRow 24 x1.2.1 x0.2.1))
def F8_copyFrom (x0 : SW) (x1 : SW) : SW := (K8_copyFrom_1 x0 x1 (F10_copyRow 24 x1.1 x0.1))
set_option maxHeartbeats 4000000 in
set_option maxRecDepth 100000 in
theorem m8_copyFrom (l : Launch) (D : va_G) (cI cL cP : ClassId) (b0 : Nat) (b1 : Nat) (b2 : Nat) (b3 : Nat) (b4 : Nat) (b5 : Nat) (b6 : Nat) (b7 : Nat) (x0 : SW) (x1 : SW) (sz : Nat) : Met l yX8_copyFrom wsX8_copyFrom ({ frames := 1, cells := 0, slots := 0, locals := 22 }) (va_Pc [.ref b0, .ref b4] (pM D cI cL cP sz (wF [gWe cI b0 b1 b2 b3 x0, gWe cI b4 b5 b6 b7 x1]))) (va_Qv (fun (w : SW) => w = F8_copyFrom x0 x1) (qW D (va_A (wF [gWe cI b0 b1 b2 b3 x0, gWe cI b4 b5 b6 b7 x1]) sz) (fun w : SW => (wF [gWe cI b0 b1 b2 b3 w, gWe cI b4 b5 b6 b7 x1]))) (va_A (wF [gWe cI b0 b1 b2 b3 x0, gWe cI b4 b5 b6 b7 x1]) sz)) 0 0 (va_A (wF [gWe cI b0 b1 b2 b3 x0, gWe cI b4 b5 b6 b7 x1]) sz) := by
  refine Met.ofW (cc := cX8_copyFrom) (maxL := 2) (ret := none) (by decide) rfl ?_
  intro p e s m args below meth c s₁ B hml hv
  obtain ⟨rfl, hsz, hP, hQ, hD0⟩ := hv
  have hx := B.exec
  have hb := B.bytes
  have hr := B.returns
  have hts := atoms_spec (ws := wsX8_copyFrom) B.pre
  have hown : s.vm.findClass RX8 = some m.cls := findClass_of_methodNamed B.named
  have hlocks := B.notSynchronized
  subst hsz
  have hD := hD0.self (sz := s.heap.size)
  generalize hAe : va_A (wF [gWe cI b0 b1 b2 b3 x0, gWe cI b4 b5 b6 b7 x1]) s.heap.size = A at hD ⊢
  have hA : ∀ q : Nat, s.heap.size ≤ q → A q := fun q h => by rw [← hAe]; exact Or.inr h
  have hS : va_S A s.heap s.heap [] := va_S.rf
  have hP : va_P D vwCl (wF [gWe cI b0 b1 b2 b3 x0, gWe cI b4 b5 b6 b7 x1]) s.heap := hP
  have hl := lv_entry ([.ref b0, .ref b4]) (n := 2) (Nat.le_of_ble_eq_true rfl)
  rw [lg_entry_eq]
  generalize (lg_sl ([.ref b0, .ref b4]) ++ List.replicate (2 - (lg_sl ([.ref b0, .ref b4])).length) Slot.unset).toArray = ls at hl ⊢
  have hl : lv_has ls 2 [(0, .ref b0), (1, .ref b4)] := hl
  have hinX8 : ∀ w ∈ wsX80, w ∈ wsX8_copyFrom := fun _ h => List.mem_cons_of_mem _ (List.mem_append_right _ h)
  refine lv_aload_n hx hb dX8_copyFrom_0 rfl (lv_at hl 1 rfl) ?_
  refine va_get (D := D) (ci := 8) (v := .ref b5) (C := RX8) (T := TX8) (N := 3) hx hb hts hinX8 hown hQ.1 hP 4 rfl rfl 0 (by decide) (hts (.fieldLink RX8 9 "HeatPumpPlant$Weather" "outdoors" "[I") (List.mem_of_getElem? (i := 1) rfl)) (fun _ h9 => h9) rfl dX8_copyFrom_1 ?_
  refine lv_aload_n hx hb dX8_copyFrom_4 rfl (lv_at hl 0 rfl) ?_
  refine va_get (D := D) (ci := 8) (v := .ref b1) (C := RX8) (T := TX8) (N := 3) hx hb hts hinX8 hown hQ.1 hP 0 rfl rfl 0 (by decide) (hts (.fieldLink RX8 9 "HeatPumpPlant$Weather" "outdoors" "[I") (List.mem_of_getElem? (i := 1) rfl)) (fun _ h9 => h9) rfl dX8_copyFrom_5 ?_
  have hP : va_P D vwCl (wF [[(b0, .inr (8, [.ref b1, .ref b2, .ref b3]))], gI cI b1 24 x0.1, gI cI b2 24 x0.2.1, gI cI b3 3 x0.2.2, [(b4, .inr (8, [.ref b5, .ref b6, .ref b7]))], gI cI b5 24 x1.1, gI cI b6 24 x1.2.1, gI cI b7 3 x1.2.2]) s.heap := hP
  have hD : va_D A (wF [[(b0, .inr (8, [.ref b1, .ref b2, .ref b3]))], gI cI b1 24 x0.1, gI cI b2 24 x0.2.1, gI cI b3 3 x0.2.2, [(b4, .inr (8, [.ref b5, .ref b6, .ref b7]))], gI cI b5 24 x1.1, gI cI b6 24 x1.2.1, gI cI b7 3 x1.2.2]) := hD
  have hPc : va_P D vwCl (wF [gI cI b5 24 x1.1, gI cI b1 24 x0.1]) s.heap := w_psub hP [5, 1] rfl
  have hDc : va_D A (wF [gI cI b5 24 x1.1, gI cI b1 24 x0.1]) := w_gsub hD [5, 1] rfl rfl
  refine c_Mv (F := F10_copyRow 24 x1.1 x0.1) (G1 := (fun w => [gI cI b5 24 x1.1, gI cI b1 24 w])) (Gr := [[(b0, .inr (8, [.ref b1, .ref b2, .ref b3]))], gI cI b2 24 x0.2.1, gI cI b3 3 x0.2.2, [(b4, .inr (8, [.ref b5, .ref b6, .ref b7]))], gI cI b6 24 x1.2.1, gI cI b7 3 x1.2.2]) (Gs' := fun z1 => [[(b0, .inr (8, [.ref b1, .ref b2, .ref b3]))], gI cI b1 24 z1, gI cI b2 24 x0.2.1, gI cI b3 3 x0.2.2, [(b4, .inr (8, [.ref b5, .ref b6, .ref b7]))], gI cI b5 24 x1.1, gI cI b6 24 x1.2.1, gI cI b7 3 x1.2.2]) (va_runSN (As := [.ref b5, .ref b1]) (rest := []) ⟨hx, hb, hml, hown, hts⟩ (m10_copyRow l D cI cL cP b5 24 b1 x1.1 x0.1 (by decide) s.heap.size) ⟨va_cnB 2 hts gX8_copyFrom_X10_copyRow_n29 rfl rfl rfl (hQ.2 (RX8, 29, yX10_copyRow, "HeatPumpPlant") (List.mem_of_getElem? (i := 5) rfl)) (hts (.initialized RX10) (List.mem_of_getElem? (i := 5) rfl)) (by decide +kernel) ⟨Nat.le_of_ble_eq_true rfl, Nat.le_of_ble_eq_true rfl⟩, (hts (.static yX10_copyRow) (List.mem_of_getElem? (i := 4) rfl)), trivial⟩ (preM_S hQ hPc hDc) rfl rfl hl.1 rfl (lv_room (Nat.le_of_ble_eq_true rfl)) dX8_copyFrom_8 ⟨Nat.le_of_ble_eq_true rfl, Nat.le_of_ble_eq_true rfl⟩) hS hA hP hD [5, 1] [0, 2, 3, 4, 6, 7] [2, 1, 3, 4, 5, 0, 6, 7] rfl rfl rfl rfl rfl (fun _ => rfl) (fun z1 H locs hz1 hP hD hS => ?_)
  have hP : va_P D vwCl (wF [gWe cI b0 b1 b2 b3 (z1, x0.2.1, x0.2.2), gWe cI b4 b5 b6 b7 x1]) H := hP
  have hD : va_D A (wF [gWe cI b0 b1 b2 b3 (z1, x0.2.1, x0.2.2), gWe cI b4 b5 b6 b7 x1]) := hD
  refine lv_aload_n hx hb dX8_copyFrom_11 rfl (lv_at hl 1 rfl) ?_
  refine va_get (D := D) (ci := 8) (v := .ref b6) (C := RX8) (T := TX8) (N := 3) hx hb hts hinX8 hown hQ.1 hP 4 rfl rfl 1 (by decide) (hts (.fieldLink RX8 15 "HeatPumpPlant$Weather" "tariffs" "[I") (List.mem_of_getElem? (i := 2) rfl)) (fun _ h9 => h9) rfl dX8_copyFrom_12 ?_
  refine lv_aload_n hx hb dX8_copyFrom_15 rfl (lv_at hl 0 rfl) ?_
  refine va_get (D := D) (ci := 8) (v := .ref b2) (C := RX8) (T := TX8) (N := 3) hx hb hts hinX8 hown hQ.1 hP 0 rfl rfl 1 (by decide) (hts (.fieldLink RX8 15 "HeatPumpPlant$Weather" "tariffs" "[I") (List.mem_of_getElem? (i := 2) rfl)) (fun _ h9 => h9) rfl dX8_copyFrom_16 ?_
  have hP : va_P D vwCl (wF [[(b0, .inr (8, [.ref b1, .ref b2, .ref b3]))], gI cI b1 24 z1, gI cI b2 24 x0.2.1, gI cI b3 3 x0.2.2, [(b4, .inr (8, [.ref b5, .ref b6, .ref b7]))], gI cI b5 24 x1.1, gI cI b6 24 x1.2.1, gI cI b7 3 x1.2.2]) H := hP
  have hD : va_D A (wF [[(b0, .inr (8, [.ref b1, .ref b2, .ref b3]))], gI cI b1 24 z1, gI cI b2 24 x0.2.1, gI cI b3 3 x0.2.2, [(b4, .inr (8, [.ref b5, .ref b6, .ref b7]))], gI cI b5 24 x1.1, gI cI b6 24 x1.2.1, gI cI b7 3 x1.2.2]) := hD
  have hPc : va_P D vwCl (wF [gI cI b6 24 x1.2.1, gI cI b2 24 x0.2.1]) H := w_psub hP [6, 2] rfl
  have hDc : va_D A (wF [gI cI b6 24 x1.2.1, gI cI b2 24 x0.2.1]) := w_gsub hD [6, 2] rfl rfl
  refine c_Mv (F := F10_copyRow 24 x1.2.1 x0.2.1) (G1 := (fun w => [gI cI b6 24 x1.2.1, gI cI b2 24 w])) (Gr := [[(b0, .inr (8, [.ref b1, .ref b2, .ref b3]))], gI cI b1 24 z1, gI cI b3 3 x0.2.2, [(b4, .inr (8, [.ref b5, .ref b6, .ref b7]))], gI cI b5 24 x1.1, gI cI b7 3 x1.2.2]) (Gs' := fun z2 => [[(b0, .inr (8, [.ref b1, .ref b2, .ref b3]))], gI cI b1 24 z1, gI cI b2 24 z2, gI cI b3 3 x0.2.2, [(b4, .inr (8, [.ref b5, .ref b6, .ref b7]))], gI cI b5 24 x1.1, gI cI b6 24 x1.2.1, gI cI b7 3 x1.2.2]) (va_runSN (As := [.ref b6, .ref b2]) (rest := []) ⟨hx, hb, hml, hown, hts⟩ (m10_copyRow l D cI cL cP b6 24 b2 x1.2.1 x0.2.1 (by decide) H.size) ⟨va_cnB 2 hts gX8_copyFrom_X10_copyRow_n29 rfl rfl rfl (hQ.2 (RX8, 29, yX10_copyRow, "HeatPumpPlant") (List.mem_of_getElem? (i := 5) rfl)) (hts (.initialized RX10) (List.mem_of_getElem? (i := 5) rfl)) (by decide +kernel) ⟨Nat.le_of_ble_eq_true rfl, Nat.le_of_ble_eq_true rfl⟩, (hts (.static yX10_copyRow) (List.mem_of_getElem? (i := 4) rfl)), trivial⟩ (preM_S hQ hPc hDc) rfl rfl hl.1 rfl (lv_room (Nat.le_of_ble_eq_true rfl)) dX8_copyFrom_19 ⟨Nat.le_of_ble_eq_true rfl, Nat.le_of_ble_eq_true rfl⟩) hS hA hP hD [6, 2] [0, 1, 3, 4, 5, 7] [2, 3, 1, 4, 5, 6, 0, 7] rfl rfl rfl rfl rfl (fun _ => rfl) (fun z2 H locs hz2 hP hD hS => ?_)
  have hP : va_P D vwCl (wF [gWe cI b0 b1 b2 b3 (z1, z2, x0.2.2), gWe cI b4 b5 b6 b7 x1]) H := hP
  have hD : va_D A (wF [gWe cI b0 b1 b2 b3 (z1, z2, x0.2.2), gWe cI b4 b5 b6 b7 x1]) := hD
  refine lv_aload_n hx hb dX8_copyFrom_22 rfl (lv_at hl 1 rfl) ?_
  refine va_get (D := D) (ci := 8) (v := .ref b7) (C := RX8) (T := TX8) (N := 3) hx hb hts hinX8 hown hQ.1 hP 4 rfl rfl 2 (by decide) (hts (.fieldLink RX8 18 "HeatPumpPlant$Weather" "prices" "[I") (List.mem_of_getElem? (i := 3) rfl)) (fun _ h9 => h9) rfl dX8_copyFrom_23 ?_
  refine lv_aload_n hx hb dX8_copyFrom_26 rfl (lv_at hl 0 rfl) ?_
  refine va_get (D := D) (ci := 8) (v := .ref b3) (C := RX8) (T := TX8) (N := 3) hx hb hts hinX8 hown hQ.1 hP 0 rfl rfl 2 (by decide) (hts (.fieldLink RX8 18 "HeatPumpPlant$Weather" "prices" "[I") (List.mem_of_getElem? (i := 3) rfl)) (fun _ h9 => h9) rfl dX8_copyFrom_27 ?_
  have hP : va_P D vwCl (wF [[(b0, .inr (8, [.ref b1, .ref b2, .ref b3]))], gI cI b1 24 z1, gI cI b2 24 z2, gI cI b3 3 x0.2.2, [(b4, .inr (8, [.ref b5, .ref b6, .ref b7]))], gI cI b5 24 x1.1, gI cI b6 24 x1.2.1, gI cI b7 3 x1.2.2]) H := hP
  have hD : va_D A (wF [[(b0, .inr (8, [.ref b1, .ref b2, .ref b3]))], gI cI b1 24 z1, gI cI b2 24 z2, gI cI b3 3 x0.2.2, [(b4, .inr (8, [.ref b5, .ref b6, .ref b7]))], gI cI b5 24 x1.1, gI cI b6 24 x1.2.1, gI cI b7 3 x1.2.2]) := hD
  have hPc : va_P D vwCl (wF [gI cI b7 3 x1.2.2, gI cI b3 3 x0.2.2]) H := w_psub hP [7, 3] rfl
  have hDc : va_D A (wF [gI cI b7 3 x1.2.2, gI cI b3 3 x0.2.2]) := w_gsub hD [7, 3] rfl rfl
  refine c_Mv (F := F10_copyRow 3 x1.2.2 x0.2.2) (G1 := (fun w => [gI cI b7 3 x1.2.2, gI cI b3 3 w])) (Gr := [[(b0, .inr (8, [.ref b1, .ref b2, .ref b3]))], gI cI b1 24 z1, gI cI b2 24 z2, [(b4, .inr (8, [.ref b5, .ref b6, .ref b7]))], gI cI b5 24 x1.1, gI cI b6 24 x1.2.1]) (Gs' := fun z3 => [[(b0, .inr (8, [.ref b1, .ref b2, .ref b3]))], gI cI b1 24 z1, gI cI b2 24 z2, gI cI b3 3 z3, [(b4, .inr (8, [.ref b5, .ref b6, .ref b7]))], gI cI b5 24 x1.1, gI cI b6 24 x1.2.1, gI cI b7 3 x1.2.2]) (va_runSN (As := [.ref b7, .ref b3]) (rest := []) ⟨hx, hb, hml, hown, hts⟩ (m10_copyRow l D cI cL cP b7 3 b3 x1.2.2 x0.2.2 (by decide) H.size) ⟨va_cnB 2 hts gX8_copyFrom_X10_copyRow_n29 rfl rfl rfl (hQ.2 (RX8, 29, yX10_copyRow, "HeatPumpPlant") (List.mem_of_getElem? (i := 5) rfl)) (hts (.initialized RX10) (List.mem_of_getElem? (i := 5) rfl)) (by decide +kernel) ⟨Nat.le_of_ble_eq_true rfl, Nat.le_of_ble_eq_true rfl⟩, (hts (.static yX10_copyRow) (List.mem_of_getElem? (i := 4) rfl)), trivial⟩ (preM_S hQ hPc hDc) rfl rfl hl.1 rfl (lv_room (Nat.le_of_ble_eq_true rfl)) dX8_copyFrom_30 ⟨Nat.le_of_ble_eq_true rfl, Nat.le_of_ble_eq_true rfl⟩) hS hA hP hD [7, 3] [0, 1, 2, 4, 5, 6] [2, 3, 4, 1, 5, 6, 7, 0] rfl rfl rfl rfl rfl (fun _ => rfl) (fun z3 H locs hz3 hP hD hS => ?_)
  have hP : va_P D vwCl (wF [gWe cI b0 b1 b2 b3 (z1, z2, z3), gWe cI b4 b5 b6 b7 x1]) H := hP
  have hD : va_D A (wF [gWe cI b0 b1 b2 b3 (z1, z2, z3), gWe cI b4 b5 b6 b7 x1]) := hD
  exact W.vret hx hb hr (fun t ht hW => ⟨⟨(z1, z2, z3), rfl, ((Eq.trans (congrArg (K8_copyFrom_1 x0 x1) hz1.symm) (Eq.trans (congrArg (K8_copyFrom_2 x0 x1 z1) hz2.symm) (Eq.trans (congrArg (K8_copyFrom_3 x0 x1 z1 z2) hz3.symm) (rfl)))).symm), by rw [ht]; exact hP, hD⟩, hS.F ht⟩) hS.2.2 dX8_copyFrom_33
def K6_copyFrom_1 (x0 : SP) (x1 : SP) (z1 : SS) : SP := (x1.1, x1.2.1, x1.2.2.1, x1.2.2.2.1, x1.2.2.2.2.1, x1.2.2.2.2.2.1, z1)
def F6_copyFrom (x0 : SP) (x1 : SP) : SP := (K6_copyFrom_1 x0 x1 (F10_copyRow 60 x1.2.2.2.2.2.2 x0.2.2.2.2.2.2))
set_option maxHeartbeats 4000000 in
set_option maxRecDepth 100000 in
theorem m6_copyFrom (l : Launch) (D : va_G) (cI cL cP : ClassId) (b0 : Nat) (b1 : Nat) (b2 : Nat) (b3 : Nat) (x0 : SP) (x1 : SP) (sz : Nat) : Met l yX6_copyFrom wsX6_copyFrom ({ frames := 1, cells := 0, slots := 0, locals := 22 }) (va_Pc [.ref b0, .ref b2] (pM D cI cL cP sz (wF [gP cI b0 b1 x0, gP cI b2 b3 x1]))) (va_Qv (fun (w : SP) => w = F6_copyFrom x0 x1) (qW D (va_A (wF [gP cI b0 b1 x0, gP cI b2 b3 x1]) sz) (fun w : SP => (wF [gP cI b0 b1 w, gP cI b2 b3 x1]))) (va_A (wF [gP cI b0 b1 x0, gP cI b2 b3 x1]) sz)) 0 0 (va_A (wF [gP cI b0 b1 x0, gP cI b2 b3 x1]) sz) := by
  refine Met.ofW (cc := cX6_copyFrom) (maxL := 2) (ret := none) (by decide) rfl ?_
  intro p e s m args below meth c s₁ B hml hv
  obtain ⟨rfl, hsz, hP, hQ, hD0⟩ := hv
  have hx := B.exec
  have hb := B.bytes
  have hr := B.returns
  have hts := atoms_spec (ws := wsX6_copyFrom) B.pre
  have hown : s.vm.findClass RX6 = some m.cls := findClass_of_methodNamed B.named
  have hlocks := B.notSynchronized
  subst hsz
  have hD := hD0.self (sz := s.heap.size)
  generalize hAe : va_A (wF [gP cI b0 b1 x0, gP cI b2 b3 x1]) s.heap.size = A at hD ⊢
  have hA : ∀ q : Nat, s.heap.size ≤ q → A q := fun q h => by rw [← hAe]; exact Or.inr h
  have hS : va_S A s.heap s.heap [] := va_S.rf
  have hP : va_P D vwCl (wF [gP cI b0 b1 x0, gP cI b2 b3 x1]) s.heap := hP
  have hl := lv_entry ([.ref b0, .ref b2]) (n := 2) (Nat.le_of_ble_eq_true rfl)
  rw [lg_entry_eq]
  generalize (lg_sl ([.ref b0, .ref b2]) ++ List.replicate (2 - (lg_sl ([.ref b0, .ref b2])).length) Slot.unset).toArray = ls at hl ⊢
  have hl : lv_has ls 2 [(0, .ref b0), (1, .ref b2)] := hl
  have hinX6 : ∀ w ∈ wsX60, w ∈ wsX6_copyFrom := fun _ h => List.mem_cons_of_mem _ (List.mem_append_right _ h)
  refine lv_aload_n hx hb dX6_copyFrom_0 rfl (lv_at hl 0 rfl) ?_
  refine lv_aload_n hx hb dX6_copyFrom_1 rfl (lv_at hl 1 rfl) ?_
  refine va_get (D := D) (ci := 6) (v := .int x1.1) (C := RX6) (T := TX6) (N := 7) hx hb hts hinX6 hown hQ.1 hP 2 rfl rfl 0 (by decide) (hts (.fieldLink RX6 9 "HeatPumpPlant$Pump" "mode" "I") (List.mem_of_getElem? (i := 1) rfl)) (fun _ h9 => h9) rfl dX6_copyFrom_2 ?_
  refine va_put (D := D) (ci := 6) (v := .int x1.1) (ty := .int) (C := RX6) (T := TX6) (N := 7) hx hb hts hinX6 tyX6 tyX6_ok nmX6 hown hQ.1 hP hD hS 0 rfl rfl 0 (by decide) (hts (.fieldLink RX6 9 "HeatPumpPlant$Pump" "mode" "I") (List.mem_of_getElem? (i := 1) rfl)) (fun _ h9 => h9) rfl (by decide +kernel) rfl rfl (Nat.le_of_ble_eq_true rfl) dX6_copyFrom_5 (fun H locs hP hD hS => ?_)
  have hP : va_P D vwCl (wF [gP cI b0 b1 (x1.1, x0.2.1, x0.2.2.1, x0.2.2.2.1, x0.2.2.2.2.1, x0.2.2.2.2.2.1, x0.2.2.2.2.2.2), gP cI b2 b3 x1]) H := hP
  have hD : va_D A (wF [gP cI b0 b1 (x1.1, x0.2.1, x0.2.2.1, x0.2.2.2.1, x0.2.2.2.2.1, x0.2.2.2.2.2.1, x0.2.2.2.2.2.2), gP cI b2 b3 x1]) := hD
  refine lv_aload_n hx hb dX6_copyFrom_8 rfl (lv_at hl 0 rfl) ?_
  refine lv_aload_n hx hb dX6_copyFrom_9 rfl (lv_at hl 1 rfl) ?_
  refine va_get (D := D) (ci := 6) (v := .int x1.2.1) (C := RX6) (T := TX6) (N := 7) hx hb hts hinX6 hown hQ.1 hP 2 rfl rfl 1 (by decide) (hts (.fieldLink RX6 22 "HeatPumpPlant$Pump" "onMinutes" "I") (List.mem_of_getElem? (i := 2) rfl)) (fun _ h9 => h9) rfl dX6_copyFrom_10 ?_
  refine va_put (D := D) (ci := 6) (v := .int x1.2.1) (ty := .int) (C := RX6) (T := TX6) (N := 7) hx hb hts hinX6 tyX6 tyX6_ok nmX6 hown hQ.1 hP hD hS 0 rfl rfl 1 (by decide) (hts (.fieldLink RX6 22 "HeatPumpPlant$Pump" "onMinutes" "I") (List.mem_of_getElem? (i := 2) rfl)) (fun _ h9 => h9) rfl (by decide +kernel) rfl rfl (Nat.le_of_ble_eq_true rfl) dX6_copyFrom_13 (fun H locs hP hD hS => ?_)
  have hP : va_P D vwCl (wF [gP cI b0 b1 (x1.1, x1.2.1, x0.2.2.1, x0.2.2.2.1, x0.2.2.2.2.1, x0.2.2.2.2.2.1, x0.2.2.2.2.2.2), gP cI b2 b3 x1]) H := hP
  have hD : va_D A (wF [gP cI b0 b1 (x1.1, x1.2.1, x0.2.2.1, x0.2.2.2.1, x0.2.2.2.2.1, x0.2.2.2.2.2.1, x0.2.2.2.2.2.2), gP cI b2 b3 x1]) := hD
  refine lv_aload_n hx hb dX6_copyFrom_16 rfl (lv_at hl 0 rfl) ?_
  refine lv_aload_n hx hb dX6_copyFrom_17 rfl (lv_at hl 1 rfl) ?_
  refine va_get (D := D) (ci := 6) (v := .int x1.2.2.1) (C := RX6) (T := TX6) (N := 7) hx hb hts hinX6 hown hQ.1 hP 2 rfl rfl 2 (by decide) (hts (.fieldLink RX6 15 "HeatPumpPlant$Pump" "offMinutes" "I") (List.mem_of_getElem? (i := 3) rfl)) (fun _ h9 => h9) rfl dX6_copyFrom_18 ?_
  refine va_put (D := D) (ci := 6) (v := .int x1.2.2.1) (ty := .int) (C := RX6) (T := TX6) (N := 7) hx hb hts hinX6 tyX6 tyX6_ok nmX6 hown hQ.1 hP hD hS 0 rfl rfl 2 (by decide) (hts (.fieldLink RX6 15 "HeatPumpPlant$Pump" "offMinutes" "I") (List.mem_of_getElem? (i := 3) rfl)) (fun _ h9 => h9) rfl (by decide +kernel) rfl rfl (Nat.le_of_ble_eq_true rfl) dX6_copyFrom_21 (fun H locs hP hD hS => ?_)
  have hP : va_P D vwCl (wF [gP cI b0 b1 (x1.1, x1.2.1, x1.2.2.1, x0.2.2.2.1, x0.2.2.2.2.1, x0.2.2.2.2.2.1, x0.2.2.2.2.2.2), gP cI b2 b3 x1]) H := hP
  have hD : va_D A (wF [gP cI b0 b1 (x1.1, x1.2.1, x1.2.2.1, x0.2.2.2.1, x0.2.2.2.2.1, x0.2.2.2.2.2.1, x0.2.2.2.2.2.2), gP cI b2 b3 x1]) := hD
  refine lv_aload_n hx hb dX6_copyFrom_24 rfl (lv_at hl 0 rfl) ?_
  refine lv_aload_n hx hb dX6_copyFrom_25 rfl (lv_at hl 1 rfl) ?_
  refine va_get (D := D) (ci := 6) (v := .int x1.2.2.2.1) (C := RX6) (T := TX6) (N := 7) hx hb hts hinX6 hown hQ.1 hP 2 rfl rfl 3 (by decide) (hts (.fieldLink RX6 25 "HeatPumpPlant$Pump" "defrostMinutes" "I") (List.mem_of_getElem? (i := 4) rfl)) (fun _ h9 => h9) rfl dX6_copyFrom_26 ?_
  refine va_put (D := D) (ci := 6) (v := .int x1.2.2.2.1) (ty := .int) (C := RX6) (T := TX6) (N := 7) hx hb hts hinX6 tyX6 tyX6_ok nmX6 hown hQ.1 hP hD hS 0 rfl rfl 3 (by decide) (hts (.fieldLink RX6 25 "HeatPumpPlant$Pump" "defrostMinutes" "I") (List.mem_of_getElem? (i := 4) rfl)) (fun _ h9 => h9) rfl (by decide +kernel) rfl rfl (Nat.le_of_ble_eq_true rfl) dX6_copyFrom_29 (fun H locs hP hD hS => ?_)
  have hP : va_P D vwCl (wF [gP cI b0 b1 (x1.1, x1.2.1, x1.2.2.1, x1.2.2.2.1, x0.2.2.2.2.1, x0.2.2.2.2.2.1, x0.2.2.2.2.2.2), gP cI b2 b3 x1]) H := hP
  have hD : va_D A (wF [gP cI b0 b1 (x1.1, x1.2.1, x1.2.2.1, x1.2.2.2.1, x0.2.2.2.2.1, x0.2.2.2.2.2.1, x0.2.2.2.2.2.2), gP cI b2 b3 x1]) := hD
  refine lv_aload_n hx hb dX6_copyFrom_32 rfl (lv_at hl 0 rfl) ?_
  refine lv_aload_n hx hb dX6_copyFrom_33 rfl (lv_at hl 1 rfl) ?_
  refine va_get (D := D) (ci := 6) (v := .int x1.2.2.2.2.1) (C := RX6) (T := TX6) (N := 7) hx hb hts hinX6 hown hQ.1 hP 2 rfl rfl 4 (by decide) (hts (.fieldLink RX6 28 "HeatPumpPlant$Pump" "frost" "I") (List.mem_of_getElem? (i := 5) rfl)) (fun _ h9 => h9) rfl dX6_copyFrom_34 ?_
  refine va_put (D := D) (ci := 6) (v := .int x1.2.2.2.2.1) (ty := .int) (C := RX6) (T := TX6) (N := 7) hx hb hts hinX6 tyX6 tyX6_ok nmX6 hown hQ.1 hP hD hS 0 rfl rfl 4 (by decide) (hts (.fieldLink RX6 28 "HeatPumpPlant$Pump" "frost" "I") (List.mem_of_getElem? (i := 5) rfl)) (fun _ h9 => h9) rfl (by decide +kernel) rfl rfl (Nat.le_of_ble_eq_true rfl) dX6_copyFrom_37 (fun H locs hP hD hS => ?_)
  have hP : va_P D vwCl (wF [gP cI b0 b1 (x1.1, x1.2.1, x1.2.2.1, x1.2.2.2.1, x1.2.2.2.2.1, x0.2.2.2.2.2.1, x0.2.2.2.2.2.2), gP cI b2 b3 x1]) H := hP
  have hD : va_D A (wF [gP cI b0 b1 (x1.1, x1.2.1, x1.2.2.1, x1.2.2.2.1, x1.2.2.2.2.1, x0.2.2.2.2.2.1, x0.2.2.2.2.2.2), gP cI b2 b3 x1]) := hD
  refine lv_aload_n hx hb dX6_copyFrom_40 rfl (lv_at hl 0 rfl) ?_
  refine lv_aload_n hx hb dX6_copyFrom_41 rfl (lv_at hl 1 rfl) ?_
  refine va_get (D := D) (ci := 6) (v := .int x1.2.2.2.2.2.1) (C := RX6) (T := TX6) (N := 7) hx hb hts hinX6 hown hQ.1 hP 2 rfl rfl 5 (by decide) (hts (.fieldLink RX6 31 "HeatPumpPlant$Pump" "recentStarts" "I") (List.mem_of_getElem? (i := 6) rfl)) (fun _ h9 => h9) rfl dX6_copyFrom_42 ?_
  refine va_put (D := D) (ci := 6) (v := .int x1.2.2.2.2.2.1) (ty := .int) (C := RX6) (T := TX6) (N := 7) hx hb hts hinX6 tyX6 tyX6_ok nmX6 hown hQ.1 hP hD hS 0 rfl rfl 5 (by decide) (hts (.fieldLink RX6 31 "HeatPumpPlant$Pump" "recentStarts" "I") (List.mem_of_getElem? (i := 6) rfl)) (fun _ h9 => h9) rfl (by decide +kernel) rfl rfl (Nat.le_of_ble_eq_true rfl) dX6_copyFrom_45 (fun H locs hP hD hS => ?_)
  have hP : va_P D vwCl (wF [gP cI b0 b1 (x1.1, x1.2.1, x1.2.2.1, x1.2.2.2.1, x1.2.2.2.2.1, x1.2.2.2.2.2.1, x0.2.2.2.2.2.2), gP cI b2 b3 x1]) H := hP
  have hD : va_D A (wF [gP cI b0 b1 (x1.1, x1.2.1, x1.2.2.1, x1.2.2.2.1, x1.2.2.2.2.1, x1.2.2.2.2.2.1, x0.2.2.2.2.2.2), gP cI b2 b3 x1]) := hD
  refine lv_aload_n hx hb dX6_copyFrom_48 rfl (lv_at hl 1 rfl) ?_
  refine va_get (D := D) (ci := 6) (v := .ref b3) (C := RX6) (T := TX6) (N := 7) hx hb hts hinX6 hown hQ.1 hP 2 rfl rfl 6 (by decide) (hts (.fieldLink RX6 18 "HeatPumpPlant$Pump" "startsByMinute" "[I") (List.mem_of_getElem? (i := 7) rfl)) (fun _ h9 => h9) rfl dX6_copyFrom_49 ?_
  refine lv_aload_n hx hb dX6_copyFrom_52 rfl (lv_at hl 0 rfl) ?_
  refine va_get (D := D) (ci := 6) (v := .ref b1) (C := RX6) (T := TX6) (N := 7) hx hb hts hinX6 hown hQ.1 hP 0 rfl rfl 6 (by decide) (hts (.fieldLink RX6 18 "HeatPumpPlant$Pump" "startsByMinute" "[I") (List.mem_of_getElem? (i := 7) rfl)) (fun _ h9 => h9) rfl dX6_copyFrom_53 ?_
  have hP : va_P D vwCl (wF [[(b0, .inr (6, [.int x1.1, .int x1.2.1, .int x1.2.2.1, .int x1.2.2.2.1, .int x1.2.2.2.2.1, .int x1.2.2.2.2.2.1, .ref b1]))], gI cI b1 60 x0.2.2.2.2.2.2, [(b2, .inr (6, [.int x1.1, .int x1.2.1, .int x1.2.2.1, .int x1.2.2.2.1, .int x1.2.2.2.2.1, .int x1.2.2.2.2.2.1, .ref b3]))], gI cI b3 60 x1.2.2.2.2.2.2]) H := hP
  have hD : va_D A (wF [[(b0, .inr (6, [.int x1.1, .int x1.2.1, .int x1.2.2.1, .int x1.2.2.2.1, .int x1.2.2.2.2.1, .int x1.2.2.2.2.2.1, .ref b1]))], gI cI b1 60 x0.2.2.2.2.2.2, [(b2, .inr (6, [.int x1.1, .int x1.2.1, .int x1.2.2.1, .int x1.2.2.2.1, .int x1.2.2.2.2.1, .int x1.2.2.2.2.2.1, .ref b3]))], gI cI b3 60 x1.2.2.2.2.2.2]) := hD
  have hPc : va_P D vwCl (wF [gI cI b3 60 x1.2.2.2.2.2.2, gI cI b1 60 x0.2.2.2.2.2.2]) H := w_psub hP [3, 1] rfl
  have hDc : va_D A (wF [gI cI b3 60 x1.2.2.2.2.2.2, gI cI b1 60 x0.2.2.2.2.2.2]) := w_gsub hD [3, 1] rfl rfl
  refine c_Mv (F := F10_copyRow 60 x1.2.2.2.2.2.2 x0.2.2.2.2.2.2) (G1 := (fun w => [gI cI b3 60 x1.2.2.2.2.2.2, gI cI b1 60 w])) (Gr := [[(b0, .inr (6, [.int x1.1, .int x1.2.1, .int x1.2.2.1, .int x1.2.2.2.1, .int x1.2.2.2.2.1, .int x1.2.2.2.2.2.1, .ref b1]))], [(b2, .inr (6, [.int x1.1, .int x1.2.1, .int x1.2.2.1, .int x1.2.2.2.1, .int x1.2.2.2.2.1, .int x1.2.2.2.2.2.1, .ref b3]))]]) (Gs' := fun z1 => [[(b0, .inr (6, [.int x1.1, .int x1.2.1, .int x1.2.2.1, .int x1.2.2.2.1, .int x1.2.2.2.2.1, .int x1.2.2.2.2.2.1, .ref b1]))], gI cI b1 60 z1, [(b2, .inr (6, [.int x1.1, .int x1.2.1, .int x1.2.2.1, .int x1.2.2.2.1, .int x1.2.2.2.2.1, .int x1.2.2.2.2.2.1, .ref b3]))], gI cI b3 60 x1.2.2.2.2.2.2]) (va_runSN (As := [.ref b3, .ref b1]) (rest := []) ⟨hx, hb, hml, hown, hts⟩ (m10_copyRow l D cI cL cP b3 60 b1 x1.2.2.2.2.2.2 x0.2.2.2.2.2.2 (by decide) H.size) ⟨va_cnB 2 hts gX6_copyFrom_X10_copyRow_n34 rfl rfl rfl (hQ.2 (RX6, 34, yX10_copyRow, "HeatPumpPlant") (List.mem_of_getElem? (i := 7) rfl)) (hts (.initialized RX10) (List.mem_of_getElem? (i := 9) rfl)) (by decide +kernel) ⟨Nat.le_of_ble_eq_true rfl, Nat.le_of_ble_eq_true rfl⟩, (hts (.static yX10_copyRow) (List.mem_of_getElem? (i := 8) rfl)), trivial⟩ (preM_S hQ hPc hDc) rfl rfl hl.1 rfl (lv_room (Nat.le_of_ble_eq_true rfl)) dX6_copyFrom_56 ⟨Nat.le_of_ble_eq_true rfl, Nat.le_of_ble_eq_true rfl⟩) hS hA hP hD [3, 1] [0, 2] [2, 1, 3, 0] rfl rfl rfl rfl rfl (fun _ => rfl) (fun z1 H locs hz1 hP hD hS => ?_)
  have hP : va_P D vwCl (wF [gP cI b0 b1 (x1.1, x1.2.1, x1.2.2.1, x1.2.2.2.1, x1.2.2.2.2.1, x1.2.2.2.2.2.1, z1), gP cI b2 b3 x1]) H := hP
  have hD : va_D A (wF [gP cI b0 b1 (x1.1, x1.2.1, x1.2.2.1, x1.2.2.2.1, x1.2.2.2.2.1, x1.2.2.2.2.2.1, z1), gP cI b2 b3 x1]) := hD
  exact W.vret hx hb hr (fun t ht hW => ⟨⟨(x1.1, x1.2.1, x1.2.2.1, x1.2.2.2.1, x1.2.2.2.2.1, x1.2.2.2.2.2.1, z1), rfl, ((Eq.trans (congrArg (K6_copyFrom_1 x0 x1) hz1.symm) (rfl)).symm), by rw [ht]; exact hP, hD⟩, hS.F ht⟩) hS.2.2 dX6_copyFrom_59
def K0_copyFrom_1 (x0 : SA) (x1 : SA) (z1 : SS) : SA := (z1, x1.2.1, x1.2.2.1, x1.2.2.2.1, x1.2.2.2.2.1, x1.2.2.2.2.2.1, x1.2.2.2.2.2.2.1, x1.2.2.2.2.2.2.2.1, x1.2.2.2.2.2.2.2.2.1, x1.2.2.2.2.2.2.2.2.2.1, x1.2.2.2.2.2.2.2.2.2.2)
def F0_copyFrom (x0 : SA) (x1 : SA) : SA := (K0_copyFrom_1 x0 x1 (F10_copyRow 12 x1.1 x0.1))
set_option maxHeartbeats 4000000 in
set_option maxRecDepth 100000 in
theorem m0_copyFrom (l : Launch) (D : va_G) (cI cL cP : ClassId) (b0 : Nat) (b1 : Nat) (b2 : Nat) (b3 : Nat) (x0 : SA) (x1 : SA) (sz : Nat) : Met l yX0_copyFrom wsX0_copyFrom ({ frames := 1, cells := 0, slots := 0, locals := 22 }) (va_Pc [.ref b0, .ref b2] (pM D cI cL cP sz (wF [gA cI b0 b1 x0, gA cI b2 b3 x1]))) (va_Qv (fun (w : SA) => w = F0_copyFrom x0 x1) (qW D (va_A (wF [gA cI b0 b1 x0, gA cI b2 b3 x1]) sz) (fun w : SA => (wF [gA cI b0 b1 w, gA cI b2 b3 x1]))) (va_A (wF [gA cI b0 b1 x0, gA cI b2 b3 x1]) sz)) 0 0 (va_A (wF [gA cI b0 b1 x0, gA cI b2 b3 x1]) sz) := by
  refine Met.ofW (cc := cX0_copyFrom) (maxL := 2) (ret := none) (by decide) rfl ?_
  intro p e s m args below meth c s₁ B hml hv
  obtain ⟨rfl, hsz, hP, hQ, hD0⟩ := hv
  have hx := B.exec
  have hb := B.bytes
  have hr := B.returns
  have hts := atoms_spec (ws := wsX0_copyFrom) B.pre
  have hown : s.vm.findClass RX0 = some m.cls := findClass_of_methodNamed B.named
  have hlocks := B.notSynchronized
  subst hsz
  have hD := hD0.self (sz := s.heap.size)
  generalize hAe : va_A (wF [gA cI b0 b1 x0, gA cI b2 b3 x1]) s.heap.size = A at hD ⊢
  have hA : ∀ q : Nat, s.heap.size ≤ q → A q := fun q h => by rw [← hAe]; exact Or.inr h
  have hS : va_S A s.heap s.heap [] := va_S.rf
  have hP : va_P D vwCl (wF [gA cI b0 b1 x0, gA cI b2 b3 x1]) s.heap := hP
  have hl := lv_entry ([.ref b0, .ref b2]) (n := 2) (Nat.le_of_ble_eq_true rfl)
  rw [lg_entry_eq]
  generalize (lg_sl ([.ref b0, .ref b2]) ++ List.replicate (2 - (lg_sl ([.ref b0, .ref b2])).length) Slot.unset).toArray = ls at hl ⊢
  have hl : lv_has ls 2 [(0, .ref b0), (1, .ref b2)] := hl
  have hinX0 : ∀ w ∈ wsX00, w ∈ wsX0_copyFrom := fun _ h => List.mem_cons_of_mem _ (List.mem_append_right _ h)
  refine lv_aload_n hx hb dX0_copyFrom_0 rfl (lv_at hl 1 rfl) ?_
  refine va_get (D := D) (ci := 0) (v := .ref b3) (C := RX0) (T := TX0) (N := 11) hx hb hts hinX0 hown hQ.1 hP 2 rfl rfl 0 (by decide) (hts (.fieldLink RX0 11 "HeatPumpPlant$Accounts" "minutesByReason" "[I") (List.mem_of_getElem? (i := 1) rfl)) (fun _ h9 => h9) rfl dX0_copyFrom_1 ?_
  refine lv_aload_n hx hb dX0_copyFrom_4 rfl (lv_at hl 0 rfl) ?_
  refine va_get (D := D) (ci := 0) (v := .ref b1) (C := RX0) (T := TX0) (N := 11) hx hb hts hinX0 hown hQ.1 hP 0 rfl rfl 0 (by decide) (hts (.fieldLink RX0 11 "HeatPumpPlant$Accounts" "minutesByReason" "[I") (List.mem_of_getElem? (i := 1) rfl)) (fun _ h9 => h9) rfl dX0_copyFrom_5 ?_
  have hP : va_P D vwCl (wF [[(b0, .inr (0, [.ref b1, .int x0.2.1, .int x0.2.2.1, .int x0.2.2.2.1, .long x0.2.2.2.2.1, .long x0.2.2.2.2.2.1, .long x0.2.2.2.2.2.2.1, .long x0.2.2.2.2.2.2.2.1, .long x0.2.2.2.2.2.2.2.2.1, .long x0.2.2.2.2.2.2.2.2.2.1, .long x0.2.2.2.2.2.2.2.2.2.2]))], gI cI b1 12 x0.1, [(b2, .inr (0, [.ref b3, .int x1.2.1, .int x1.2.2.1, .int x1.2.2.2.1, .long x1.2.2.2.2.1, .long x1.2.2.2.2.2.1, .long x1.2.2.2.2.2.2.1, .long x1.2.2.2.2.2.2.2.1, .long x1.2.2.2.2.2.2.2.2.1, .long x1.2.2.2.2.2.2.2.2.2.1, .long x1.2.2.2.2.2.2.2.2.2.2]))], gI cI b3 12 x1.1]) s.heap := hP
  have hD : va_D A (wF [[(b0, .inr (0, [.ref b1, .int x0.2.1, .int x0.2.2.1, .int x0.2.2.2.1, .long x0.2.2.2.2.1, .long x0.2.2.2.2.2.1, .long x0.2.2.2.2.2.2.1, .long x0.2.2.2.2.2.2.2.1, .long x0.2.2.2.2.2.2.2.2.1, .long x0.2.2.2.2.2.2.2.2.2.1, .long x0.2.2.2.2.2.2.2.2.2.2]))], gI cI b1 12 x0.1, [(b2, .inr (0, [.ref b3, .int x1.2.1, .int x1.2.2.1, .int x1.2.2.2.1, .long x1.2.2.2.2.1, .long x1.2.2.2.2.2.1, .long x1.2.2.2.2.2.2.1, .long x1.2.2.2.2.2.2.2.1, .long x1.2.2.2.2.2.2.2.2.1, .long x1.2.2.2.2.2.2.2.2.2.1, .long x1.2.2.2.2.2.2.2.2.2.2]))], gI cI b3 12 x1.1]) := hD
  have hPc : va_P D vwCl (wF [gI cI b3 12 x1.1, gI cI b1 12 x0.1]) s.heap := w_psub hP [3, 1] rfl
  have hDc : va_D A (wF [gI cI b3 12 x1.1, gI cI b1 12 x0.1]) := w_gsub hD [3, 1] rfl rfl
  refine c_Mv (F := F10_copyRow 12 x1.1 x0.1) (G1 := (fun w => [gI cI b3 12 x1.1, gI cI b1 12 w])) (Gr := [[(b0, .inr (0, [.ref b1, .int x0.2.1, .int x0.2.2.1, .int x0.2.2.2.1, .long x0.2.2.2.2.1, .long x0.2.2.2.2.2.1, .long x0.2.2.2.2.2.2.1, .long x0.2.2.2.2.2.2.2.1, .long x0.2.2.2.2.2.2.2.2.1, .long x0.2.2.2.2.2.2.2.2.2.1, .long x0.2.2.2.2.2.2.2.2.2.2]))], [(b2, .inr (0, [.ref b3, .int x1.2.1, .int x1.2.2.1, .int x1.2.2.2.1, .long x1.2.2.2.2.1, .long x1.2.2.2.2.2.1, .long x1.2.2.2.2.2.2.1, .long x1.2.2.2.2.2.2.2.1, .long x1.2.2.2.2.2.2.2.2.1, .long x1.2.2.2.2.2.2.2.2.2.1, .long x1.2.2.2.2.2.2.2.2.2.2]))]]) (Gs' := fun z1 => [[(b0, .inr (0, [.ref b1, .int x0.2.1, .int x0.2.2.1, .int x0.2.2.2.1, .long x0.2.2.2.2.1, .long x0.2.2.2.2.2.1, .long x0.2.2.2.2.2.2.1, .long x0.2.2.2.2.2.2.2.1, .long x0.2.2.2.2.2.2.2.2.1, .long x0.2.2.2.2.2.2.2.2.2.1, .long x0.2.2.2.2.2.2.2.2.2.2]))], gI cI b1 12 z1, [(b2, .inr (0, [.ref b3, .int x1.2.1, .int x1.2.2.1, .int x1.2.2.2.1, .long x1.2.2.2.2.1, .long x1.2.2.2.2.2.1, .long x1.2.2.2.2.2.2.1, .long x1.2.2.2.2.2.2.2.1, .long x1.2.2.2.2.2.2.2.2.1, .long x1.2.2.2.2.2.2.2.2.2.1, .long x1.2.2.2.2.2.2.2.2.2.2]))], gI cI b3 12 x1.1]) (va_runSN (As := [.ref b3, .ref b1]) (rest := []) ⟨hx, hb, hml, hown, hts⟩ (m10_copyRow l D cI cL cP b3 12 b1 x1.1 x0.1 (by decide) s.heap.size) ⟨va_cnB 2 hts gX0_copyFrom_X10_copyRow_n21 rfl rfl rfl (hQ.2 (RX0, 21, yX10_copyRow, "HeatPumpPlant") (List.mem_of_getElem? (i := 8) rfl)) (hts (.initialized RX10) (List.mem_of_getElem? (i := 13) rfl)) (by decide +kernel) ⟨Nat.le_of_ble_eq_true rfl, Nat.le_of_ble_eq_true rfl⟩, (hts (.static yX10_copyRow) (List.mem_of_getElem? (i := 12) rfl)), trivial⟩ (preM_S hQ hPc hDc) rfl rfl hl.1 rfl (lv_room (Nat.le_of_ble_eq_true rfl)) dX0_copyFrom_8 ⟨Nat.le_of_ble_eq_true rfl, Nat.le_of_ble_eq_true rfl⟩) hS hA hP hD [3, 1] [0, 2] [2, 1, 3, 0] rfl rfl rfl rfl rfl (fun _ => rfl) (fun z1 H locs hz1 hP hD hS => ?_)
  have hP : va_P D vwCl (wF [gA cI b0 b1 (z1, x0.2.1, x0.2.2.1, x0.2.2.2.1, x0.2.2.2.2.1, x0.2.2.2.2.2.1, x0.2.2.2.2.2.2.1, x0.2.2.2.2.2.2.2.1, x0.2.2.2.2.2.2.2.2.1, x0.2.2.2.2.2.2.2.2.2.1, x0.2.2.2.2.2.2.2.2.2.2), gA cI b2 b3 x1]) H := hP
  have hD : va_D A (wF [gA cI b0 b1 (z1, x0.2.1, x0.2.2.1, x0.2.2.2.1, x0.2.2.2.2.1, x0.2.2.2.2.2.1, x0.2.2.2.2.2.2.1, x0.2.2.2.2.2.2.2.1, x0.2.2.2.2.2.2.2.2.1, x0.2.2.2.2.2.2.2.2.2.1, x0.2.2.2.2.2.2.2.2.2.2), gA cI b2 b3 x1]) := hD
  refine lv_aload_n hx hb dX0_copyFrom_11 rfl (lv_at hl 0 rfl) ?_
  refine lv_aload_n hx hb dX0_copyFrom_12 rfl (lv_at hl 1 rfl) ?_
  refine va_get (D := D) (ci := 0) (v := .int x1.2.1) (C := RX0) (T := TX0) (N := 11) hx hb hts hinX0 hown hQ.1 hP 2 rfl rfl 1 (by decide) (hts (.fieldLink RX0 17 "HeatPumpPlant$Accounts" "latestReason" "I") (List.mem_of_getElem? (i := 2) rfl)) (fun _ h9 => h9) rfl dX0_copyFrom_13 ?_
  refine va_put (D := D) (ci := 0) (v := .int x1.2.1) (ty := .int) (C := RX0) (T := TX0) (N := 11) hx hb hts hinX0 tyX0 tyX0_ok nmX0 hown hQ.1 hP hD hS 0 rfl rfl 1 (by decide) (hts (.fieldLink RX0 17 "HeatPumpPlant$Accounts" "latestReason" "I") (List.mem_of_getElem? (i := 2) rfl)) (fun _ h9 => h9) rfl (by decide +kernel) rfl rfl (Nat.le_of_ble_eq_true rfl) dX0_copyFrom_16 (fun H locs hP hD hS => ?_)
  have hP : va_P D vwCl (wF [gA cI b0 b1 (z1, x1.2.1, x0.2.2.1, x0.2.2.2.1, x0.2.2.2.2.1, x0.2.2.2.2.2.1, x0.2.2.2.2.2.2.1, x0.2.2.2.2.2.2.2.1, x0.2.2.2.2.2.2.2.2.1, x0.2.2.2.2.2.2.2.2.2.1, x0.2.2.2.2.2.2.2.2.2.2), gA cI b2 b3 x1]) H := hP
  have hD : va_D A (wF [gA cI b0 b1 (z1, x1.2.1, x0.2.2.1, x0.2.2.2.1, x0.2.2.2.2.1, x0.2.2.2.2.2.1, x0.2.2.2.2.2.2.1, x0.2.2.2.2.2.2.2.1, x0.2.2.2.2.2.2.2.2.1, x0.2.2.2.2.2.2.2.2.2.1, x0.2.2.2.2.2.2.2.2.2.2), gA cI b2 b3 x1]) := hD
  refine lv_aload_n hx hb dX0_copyFrom_19 rfl (lv_at hl 0 rfl) ?_
  refine lv_aload_n hx hb dX0_copyFrom_20 rfl (lv_at hl 1 rfl) ?_
  refine va_get (D := D) (ci := 0) (v := .int x1.2.2.1) (C := RX0) (T := TX0) (N := 11) hx hb hts hinX0 hown hQ.1 hP 2 rfl rfl 2 (by decide) (hts (.fieldLink RX0 25 "HeatPumpPlant$Accounts" "starts" "I") (List.mem_of_getElem? (i := 3) rfl)) (fun _ h9 => h9) rfl dX0_copyFrom_21 ?_
  refine va_put (D := D) (ci := 0) (v := .int x1.2.2.1) (ty := .int) (C := RX0) (T := TX0) (N := 11) hx hb hts hinX0 tyX0 tyX0_ok nmX0 hown hQ.1 hP hD hS 0 rfl rfl 2 (by decide) (hts (.fieldLink RX0 25 "HeatPumpPlant$Accounts" "starts" "I") (List.mem_of_getElem? (i := 3) rfl)) (fun _ h9 => h9) rfl (by decide +kernel) rfl rfl (Nat.le_of_ble_eq_true rfl) dX0_copyFrom_24 (fun H locs hP hD hS => ?_)
  have hP : va_P D vwCl (wF [gA cI b0 b1 (z1, x1.2.1, x1.2.2.1, x0.2.2.2.1, x0.2.2.2.2.1, x0.2.2.2.2.2.1, x0.2.2.2.2.2.2.1, x0.2.2.2.2.2.2.2.1, x0.2.2.2.2.2.2.2.2.1, x0.2.2.2.2.2.2.2.2.2.1, x0.2.2.2.2.2.2.2.2.2.2), gA cI b2 b3 x1]) H := hP
  have hD : va_D A (wF [gA cI b0 b1 (z1, x1.2.1, x1.2.2.1, x0.2.2.2.1, x0.2.2.2.2.1, x0.2.2.2.2.2.1, x0.2.2.2.2.2.2.1, x0.2.2.2.2.2.2.2.1, x0.2.2.2.2.2.2.2.2.1, x0.2.2.2.2.2.2.2.2.2.1, x0.2.2.2.2.2.2.2.2.2.2), gA cI b2 b3 x1]) := hD
  refine lv_aload_n hx hb dX0_copyFrom_27 rfl (lv_at hl 0 rfl) ?_
  refine lv_aload_n hx hb dX0_copyFrom_28 rfl (lv_at hl 1 rfl) ?_
  refine va_get (D := D) (ci := 0) (v := .int x1.2.2.2.1) (C := RX0) (T := TX0) (N := 11) hx hb hts hinX0 hown hQ.1 hP 2 rfl rfl 3 (by decide) (hts (.fieldLink RX0 28 "HeatPumpPlant$Accounts" "defrosts" "I") (List.mem_of_getElem? (i := 4) rfl)) (fun _ h9 => h9) rfl dX0_copyFrom_29 ?_
  refine va_put (D := D) (ci := 0) (v := .int x1.2.2.2.1) (ty := .int) (C := RX0) (T := TX0) (N := 11) hx hb hts hinX0 tyX0 tyX0_ok nmX0 hown hQ.1 hP hD hS 0 rfl rfl 3 (by decide) (hts (.fieldLink RX0 28 "HeatPumpPlant$Accounts" "defrosts" "I") (List.mem_of_getElem? (i := 4) rfl)) (fun _ h9 => h9) rfl (by decide +kernel) rfl rfl (Nat.le_of_ble_eq_true rfl) dX0_copyFrom_32 (fun H locs hP hD hS => ?_)
  have hP : va_P D vwCl (wF [gA cI b0 b1 (z1, x1.2.1, x1.2.2.1, x1.2.2.2.1, x0.2.2.2.2.1, x0.2.2.2.2.2.1, x0.2.2.2.2.2.2.1, x0.2.2.2.2.2.2.2.1, x0.2.2.2.2.2.2.2.2.1, x0.2.2.2.2.2.2.2.2.2.1, x0.2.2.2.2.2.2.2.2.2.2), gA cI b2 b3 x1]) H := hP
  have hD : va_D A (wF [gA cI b0 b1 (z1, x1.2.1, x1.2.2.1, x1.2.2.2.1, x0.2.2.2.2.1, x0.2.2.2.2.2.1, x0.2.2.2.2.2.2.1, x0.2.2.2.2.2.2.2.1, x0.2.2.2.2.2.2.2.2.1, x0.2.2.2.2.2.2.2.2.2.1, x0.2.2.2.2.2.2.2.2.2.2), gA cI b2 b3 x1]) := hD
  refine lv_aload_n hx hb dX0_copyFrom_35 rfl (lv_at hl 0 rfl) ?_
  refine lv_aload_n hx hb dX0_copyFrom_36 rfl (lv_at hl 1 rfl) ?_
  refine va_get (D := D) (ci := 0) (v := .long x1.2.2.2.2.1) (C := RX0) (T := TX0) (N := 11) hx hb hts hinX0 hown hQ.1 hP 2 rfl rfl 4 (by decide) (hts (.fieldLink RX0 31 "HeatPumpPlant$Accounts" "produced" "J") (List.mem_of_getElem? (i := 5) rfl)) (fun _ h9 => h9) rfl dX0_copyFrom_37 ?_
  refine va_put (D := D) (ci := 0) (v := .long x1.2.2.2.2.1) (ty := .long) (C := RX0) (T := TX0) (N := 11) hx hb hts hinX0 tyX0 tyX0_ok nmX0 hown hQ.1 hP hD hS 0 rfl rfl 4 (by decide) (hts (.fieldLink RX0 31 "HeatPumpPlant$Accounts" "produced" "J") (List.mem_of_getElem? (i := 5) rfl)) (fun _ h9 => h9) rfl (by decide +kernel) rfl rfl (Nat.le_of_ble_eq_true rfl) dX0_copyFrom_40 (fun H locs hP hD hS => ?_)
  have hP : va_P D vwCl (wF [gA cI b0 b1 (z1, x1.2.1, x1.2.2.1, x1.2.2.2.1, x1.2.2.2.2.1, x0.2.2.2.2.2.1, x0.2.2.2.2.2.2.1, x0.2.2.2.2.2.2.2.1, x0.2.2.2.2.2.2.2.2.1, x0.2.2.2.2.2.2.2.2.2.1, x0.2.2.2.2.2.2.2.2.2.2), gA cI b2 b3 x1]) H := hP
  have hD : va_D A (wF [gA cI b0 b1 (z1, x1.2.1, x1.2.2.1, x1.2.2.2.1, x1.2.2.2.2.1, x0.2.2.2.2.2.1, x0.2.2.2.2.2.2.1, x0.2.2.2.2.2.2.2.1, x0.2.2.2.2.2.2.2.2.1, x0.2.2.2.2.2.2.2.2.2.1, x0.2.2.2.2.2.2.2.2.2.2), gA cI b2 b3 x1]) := hD
  refine lv_aload_n hx hb dX0_copyFrom_43 rfl (lv_at hl 0 rfl) ?_
  refine lv_aload_n hx hb dX0_copyFrom_44 rfl (lv_at hl 1 rfl) ?_
  refine va_get (D := D) (ci := 0) (v := .long x1.2.2.2.2.2.1) (C := RX0) (T := TX0) (N := 11) hx hb hts hinX0 hown hQ.1 hP 2 rfl rfl 5 (by decide) (hts (.fieldLink RX0 35 "HeatPumpPlant$Accounts" "defrostHeat" "J") (List.mem_of_getElem? (i := 6) rfl)) (fun _ h9 => h9) rfl dX0_copyFrom_45 ?_
  refine va_put (D := D) (ci := 0) (v := .long x1.2.2.2.2.2.1) (ty := .long) (C := RX0) (T := TX0) (N := 11) hx hb hts hinX0 tyX0 tyX0_ok nmX0 hown hQ.1 hP hD hS 0 rfl rfl 5 (by decide) (hts (.fieldLink RX0 35 "HeatPumpPlant$Accounts" "defrostHeat" "J") (List.mem_of_getElem? (i := 6) rfl)) (fun _ h9 => h9) rfl (by decide +kernel) rfl rfl (Nat.le_of_ble_eq_true rfl) dX0_copyFrom_48 (fun H locs hP hD hS => ?_)
  have hP : va_P D vwCl (wF [gA cI b0 b1 (z1, x1.2.1, x1.2.2.1, x1.2.2.2.1, x1.2.2.2.2.1, x1.2.2.2.2.2.1, x0.2.2.2.2.2.2.1, x0.2.2.2.2.2.2.2.1, x0.2.2.2.2.2.2.2.2.1, x0.2.2.2.2.2.2.2.2.2.1, x0.2.2.2.2.2.2.2.2.2.2), gA cI b2 b3 x1]) H := hP
  have hD : va_D A (wF [gA cI b0 b1 (z1, x1.2.1, x1.2.2.1, x1.2.2.2.1, x1.2.2.2.2.1, x1.2.2.2.2.2.1, x0.2.2.2.2.2.2.1, x0.2.2.2.2.2.2.2.1, x0.2.2.2.2.2.2.2.2.1, x0.2.2.2.2.2.2.2.2.2.1, x0.2.2.2.2.2.2.2.2.2.2), gA cI b2 b3 x1]) := hD
  refine lv_aload_n hx hb dX0_copyFrom_51 rfl (lv_at hl 0 rfl) ?_
  refine lv_aload_n hx hb dX0_copyFrom_52 rfl (lv_at hl 1 rfl) ?_
  refine va_get (D := D) (ci := 0) (v := .long x1.2.2.2.2.2.2.1) (C := RX0) (T := TX0) (N := 11) hx hb hts hinX0 hown hQ.1 hP 2 rfl rfl 6 (by decide) (hts (.fieldLink RX0 38 "HeatPumpPlant$Accounts" "drawn" "J") (List.mem_of_getElem? (i := 7) rfl)) (fun _ h9 => h9) rfl dX0_copyFrom_53 ?_
  refine va_put (D := D) (ci := 0) (v := .long x1.2.2.2.2.2.2.1) (ty := .long) (C := RX0) (T := TX0) (N := 11) hx hb hts hinX0 tyX0 tyX0_ok nmX0 hown hQ.1 hP hD hS 0 rfl rfl 6 (by decide) (hts (.fieldLink RX0 38 "HeatPumpPlant$Accounts" "drawn" "J") (List.mem_of_getElem? (i := 7) rfl)) (fun _ h9 => h9) rfl (by decide +kernel) rfl rfl (Nat.le_of_ble_eq_true rfl) dX0_copyFrom_56 (fun H locs hP hD hS => ?_)
  have hP : va_P D vwCl (wF [gA cI b0 b1 (z1, x1.2.1, x1.2.2.1, x1.2.2.2.1, x1.2.2.2.2.1, x1.2.2.2.2.2.1, x1.2.2.2.2.2.2.1, x0.2.2.2.2.2.2.2.1, x0.2.2.2.2.2.2.2.2.1, x0.2.2.2.2.2.2.2.2.2.1, x0.2.2.2.2.2.2.2.2.2.2), gA cI b2 b3 x1]) H := hP
  have hD : va_D A (wF [gA cI b0 b1 (z1, x1.2.1, x1.2.2.1, x1.2.2.2.1, x1.2.2.2.2.1, x1.2.2.2.2.2.1, x1.2.2.2.2.2.2.1, x0.2.2.2.2.2.2.2.1, x0.2.2.2.2.2.2.2.2.1, x0.2.2.2.2.2.2.2.2.2.1, x0.2.2.2.2.2.2.2.2.2.2), gA cI b2 b3 x1]) := hD
  refine lv_aload_n hx hb dX0_copyFrom_59 rfl (lv_at hl 0 rfl) ?_
  refine lv_aload_n hx hb dX0_copyFrom_60 rfl (lv_at hl 1 rfl) ?_
  refine va_get (D := D) (ci := 0) (v := .long x1.2.2.2.2.2.2.2.1) (C := RX0) (T := TX0) (N := 11) hx hb hts hinX0 hown hQ.1 hP 2 rfl rfl 7 (by decide) (hts (.fieldLink RX0 41 "HeatPumpPlant$Accounts" "unmet" "J") (List.mem_of_getElem? (i := 8) rfl)) (fun _ h9 => h9) rfl dX0_copyFrom_61 ?_
  refine va_put (D := D) (ci := 0) (v := .long x1.2.2.2.2.2.2.2.1) (ty := .long) (C := RX0) (T := TX0) (N := 11) hx hb hts hinX0 tyX0 tyX0_ok nmX0 hown hQ.1 hP hD hS 0 rfl rfl 7 (by decide) (hts (.fieldLink RX0 41 "HeatPumpPlant$Accounts" "unmet" "J") (List.mem_of_getElem? (i := 8) rfl)) (fun _ h9 => h9) rfl (by decide +kernel) rfl rfl (Nat.le_of_ble_eq_true rfl) dX0_copyFrom_64 (fun H locs hP hD hS => ?_)
  have hP : va_P D vwCl (wF [gA cI b0 b1 (z1, x1.2.1, x1.2.2.1, x1.2.2.2.1, x1.2.2.2.2.1, x1.2.2.2.2.2.1, x1.2.2.2.2.2.2.1, x1.2.2.2.2.2.2.2.1, x0.2.2.2.2.2.2.2.2.1, x0.2.2.2.2.2.2.2.2.2.1, x0.2.2.2.2.2.2.2.2.2.2), gA cI b2 b3 x1]) H := hP
  have hD : va_D A (wF [gA cI b0 b1 (z1, x1.2.1, x1.2.2.1, x1.2.2.2.1, x1.2.2.2.2.1, x1.2.2.2.2.2.1, x1.2.2.2.2.2.2.1, x1.2.2.2.2.2.2.2.1, x0.2.2.2.2.2.2.2.2.1, x0.2.2.2.2.2.2.2.2.2.1, x0.2.2.2.2.2.2.2.2.2.2), gA cI b2 b3 x1]) := hD
  refine lv_aload_n hx hb dX0_copyFrom_67 rfl (lv_at hl 0 rfl) ?_
  refine lv_aload_n hx hb dX0_copyFrom_68 rfl (lv_at hl 1 rfl) ?_
  refine va_get (D := D) (ci := 0) (v := .long x1.2.2.2.2.2.2.2.2.1) (C := RX0) (T := TX0) (N := 11) hx hb hts hinX0 hown hQ.1 hP 2 rfl rfl 8 (by decide) (hts (.fieldLink RX0 44 "HeatPumpPlant$Accounts" "lost" "J") (List.mem_of_getElem? (i := 9) rfl)) (fun _ h9 => h9) rfl dX0_copyFrom_69 ?_
  refine va_put (D := D) (ci := 0) (v := .long x1.2.2.2.2.2.2.2.2.1) (ty := .long) (C := RX0) (T := TX0) (N := 11) hx hb hts hinX0 tyX0 tyX0_ok nmX0 hown hQ.1 hP hD hS 0 rfl rfl 8 (by decide) (hts (.fieldLink RX0 44 "HeatPumpPlant$Accounts" "lost" "J") (List.mem_of_getElem? (i := 9) rfl)) (fun _ h9 => h9) rfl (by decide +kernel) rfl rfl (Nat.le_of_ble_eq_true rfl) dX0_copyFrom_72 (fun H locs hP hD hS => ?_)
  have hP : va_P D vwCl (wF [gA cI b0 b1 (z1, x1.2.1, x1.2.2.1, x1.2.2.2.1, x1.2.2.2.2.1, x1.2.2.2.2.2.1, x1.2.2.2.2.2.2.1, x1.2.2.2.2.2.2.2.1, x1.2.2.2.2.2.2.2.2.1, x0.2.2.2.2.2.2.2.2.2.1, x0.2.2.2.2.2.2.2.2.2.2), gA cI b2 b3 x1]) H := hP
  have hD : va_D A (wF [gA cI b0 b1 (z1, x1.2.1, x1.2.2.1, x1.2.2.2.1, x1.2.2.2.2.1, x1.2.2.2.2.2.1, x1.2.2.2.2.2.2.1, x1.2.2.2.2.2.2.2.1, x1.2.2.2.2.2.2.2.2.1, x0.2.2.2.2.2.2.2.2.2.1, x0.2.2.2.2.2.2.2.2.2.2), gA cI b2 b3 x1]) := hD
  refine lv_aload_n hx hb dX0_copyFrom_75 rfl (lv_at hl 0 rfl) ?_
  refine lv_aload_n hx hb dX0_copyFrom_76 rfl (lv_at hl 1 rfl) ?_
  refine va_get (D := D) (ci := 0) (v := .long x1.2.2.2.2.2.2.2.2.2.1) (C := RX0) (T := TX0) (N := 11) hx hb hts hinX0 hown hQ.1 hP 2 rfl rfl 9 (by decide) (hts (.fieldLink RX0 47 "HeatPumpPlant$Accounts" "electricity" "J") (List.mem_of_getElem? (i := 10) rfl)) (fun _ h9 => h9) rfl dX0_copyFrom_77 ?_
  refine va_put (D := D) (ci := 0) (v := .long x1.2.2.2.2.2.2.2.2.2.1) (ty := .long) (C := RX0) (T := TX0) (N := 11) hx hb hts hinX0 tyX0 tyX0_ok nmX0 hown hQ.1 hP hD hS 0 rfl rfl 9 (by decide) (hts (.fieldLink RX0 47 "HeatPumpPlant$Accounts" "electricity" "J") (List.mem_of_getElem? (i := 10) rfl)) (fun _ h9 => h9) rfl (by decide +kernel) rfl rfl (Nat.le_of_ble_eq_true rfl) dX0_copyFrom_80 (fun H locs hP hD hS => ?_)
  have hP : va_P D vwCl (wF [gA cI b0 b1 (z1, x1.2.1, x1.2.2.1, x1.2.2.2.1, x1.2.2.2.2.1, x1.2.2.2.2.2.1, x1.2.2.2.2.2.2.1, x1.2.2.2.2.2.2.2.1, x1.2.2.2.2.2.2.2.2.1, x1.2.2.2.2.2.2.2.2.2.1, x0.2.2.2.2.2.2.2.2.2.2), gA cI b2 b3 x1]) H := hP
  have hD : va_D A (wF [gA cI b0 b1 (z1, x1.2.1, x1.2.2.1, x1.2.2.2.1, x1.2.2.2.2.1, x1.2.2.2.2.2.1, x1.2.2.2.2.2.2.1, x1.2.2.2.2.2.2.2.1, x1.2.2.2.2.2.2.2.2.1, x1.2.2.2.2.2.2.2.2.2.1, x0.2.2.2.2.2.2.2.2.2.2), gA cI b2 b3 x1]) := hD
  refine lv_aload_n hx hb dX0_copyFrom_83 rfl (lv_at hl 0 rfl) ?_
  refine lv_aload_n hx hb dX0_copyFrom_84 rfl (lv_at hl 1 rfl) ?_
  refine va_get (D := D) (ci := 0) (v := .long x1.2.2.2.2.2.2.2.2.2.2) (C := RX0) (T := TX0) (N := 11) hx hb hts hinX0 hown hQ.1 hP 2 rfl rfl 10 (by decide) (hts (.fieldLink RX0 50 "HeatPumpPlant$Accounts" "cost" "J") (List.mem_of_getElem? (i := 11) rfl)) (fun _ h9 => h9) rfl dX0_copyFrom_85 ?_
  refine va_put (D := D) (ci := 0) (v := .long x1.2.2.2.2.2.2.2.2.2.2) (ty := .long) (C := RX0) (T := TX0) (N := 11) hx hb hts hinX0 tyX0 tyX0_ok nmX0 hown hQ.1 hP hD hS 0 rfl rfl 10 (by decide) (hts (.fieldLink RX0 50 "HeatPumpPlant$Accounts" "cost" "J") (List.mem_of_getElem? (i := 11) rfl)) (fun _ h9 => h9) rfl (by decide +kernel) rfl rfl (Nat.le_of_ble_eq_true rfl) dX0_copyFrom_88 (fun H locs hP hD hS => ?_)
  have hP : va_P D vwCl (wF [gA cI b0 b1 (z1, x1.2.1, x1.2.2.1, x1.2.2.2.1, x1.2.2.2.2.1, x1.2.2.2.2.2.1, x1.2.2.2.2.2.2.1, x1.2.2.2.2.2.2.2.1, x1.2.2.2.2.2.2.2.2.1, x1.2.2.2.2.2.2.2.2.2.1, x1.2.2.2.2.2.2.2.2.2.2), gA cI b2 b3 x1]) H := hP
  have hD : va_D A (wF [gA cI b0 b1 (z1, x1.2.1, x1.2.2.1, x1.2.2.2.1, x1.2.2.2.2.1, x1.2.2.2.2.2.1, x1.2.2.2.2.2.2.1, x1.2.2.2.2.2.2.2.1, x1.2.2.2.2.2.2.2.2.1, x1.2.2.2.2.2.2.2.2.2.1, x1.2.2.2.2.2.2.2.2.2.2), gA cI b2 b3 x1]) := hD
  exact W.vret hx hb hr (fun t ht hW => ⟨⟨(z1, x1.2.1, x1.2.2.1, x1.2.2.2.1, x1.2.2.2.2.1, x1.2.2.2.2.2.1, x1.2.2.2.2.2.2.1, x1.2.2.2.2.2.2.2.1, x1.2.2.2.2.2.2.2.2.1, x1.2.2.2.2.2.2.2.2.2.1, x1.2.2.2.2.2.2.2.2.2.2), rfl, ((Eq.trans (congrArg (K0_copyFrom_1 x0 x1) hz1.symm) (rfl)).symm), by rw [ht]; exact hP, hD⟩, hS.F ht⟩) hS.2.2 dX0_copyFrom_91
def K3_copyFrom_2 (x0 : SK) (x1 : SK) (z1 : SS) (z2 : SS) : SK := (z1, z2, x1.2.2)
def K3_copyFrom_1 (x0 : SK) (x1 : SK) (z1 : SS) : SK := (K3_copyFrom_2 x0 x1 z1 (F10_copyRow 6 x1.2.1 x0.2.1))
def F3_copyFrom (x0 : SK) (x1 : SK) : SK := (K3_copyFrom_1 x0 x1 (F10_copyRow 6 x1.1 x0.1))
set_option maxHeartbeats 4000000 in
set_option maxRecDepth 100000 in
theorem m3_copyFrom (l : Launch) (D : va_G) (cI cL cP : ClassId) (b0 : Nat) (b1 : Nat) (b2 : Nat) (b3 : Nat) (b4 : Nat) (b5 : Nat) (x0 : SK) (x1 : SK) (sz : Nat) : Met l yX3_copyFrom wsX3_copyFrom ({ frames := 1, cells := 0, slots := 0, locals := 22 }) (va_Pc [.ref b0, .ref b3] (pM D cI cL cP sz (wF [gK cI b0 b1 b2 x0, gK cI b3 b4 b5 x1]))) (va_Qv (fun (w : SK) => w = F3_copyFrom x0 x1) (qW D (va_A (wF [gK cI b0 b1 b2 x0, gK cI b3 b4 b5 x1]) sz) (fun w : SK => (wF [gK cI b0 b1 b2 w, gK cI b3 b4 b5 x1]))) (va_A (wF [gK cI b0 b1 b2 x0, gK cI b3 b4 b5 x1]) sz)) 0 0 (va_A (wF [gK cI b0 b1 b2 x0, gK cI b3 b4 b5 x1]) sz) := by
  refine Met.ofW (cc := cX3_copyFrom) (maxL := 2) (ret := none) (by decide) rfl ?_
  intro p e s m args below meth c s₁ B hml hv
  obtain ⟨rfl, hsz, hP, hQ, hD0⟩ := hv
  have hx := B.exec
  have hb := B.bytes
  have hr := B.returns
  have hts := atoms_spec (ws := wsX3_copyFrom) B.pre
  have hown : s.vm.findClass RX3 = some m.cls := findClass_of_methodNamed B.named
  have hlocks := B.notSynchronized
  subst hsz
  have hD := hD0.self (sz := s.heap.size)
  generalize hAe : va_A (wF [gK cI b0 b1 b2 x0, gK cI b3 b4 b5 x1]) s.heap.size = A at hD ⊢
  have hA : ∀ q : Nat, s.heap.size ≤ q → A q := fun q h => by rw [← hAe]; exact Or.inr h
  have hS : va_S A s.heap s.heap [] := va_S.rf
  have hP : va_P D vwCl (wF [gK cI b0 b1 b2 x0, gK cI b3 b4 b5 x1]) s.heap := hP
  have hl := lv_entry ([.ref b0, .ref b3]) (n := 2) (Nat.le_of_ble_eq_true rfl)
  rw [lg_entry_eq]
  generalize (lg_sl ([.ref b0, .ref b3]) ++ List.replicate (2 - (lg_sl ([.ref b0, .ref b3])).length) Slot.unset).toArray = ls at hl ⊢
  have hl : lv_has ls 2 [(0, .ref b0), (1, .ref b3)] := hl
  have hinX3 : ∀ w ∈ wsX30, w ∈ wsX3_copyFrom := fun _ h => List.mem_cons_of_mem _ (List.mem_append_right _ h)
  refine lv_aload_n hx hb dX3_copyFrom_0 rfl (lv_at hl 1 rfl) ?_
  refine va_get (D := D) (ci := 3) (v := .ref b4) (C := RX3) (T := TX3) (N := 3) hx hb hts hinX3 hown hQ.1 hP 3 rfl rfl 0 (by decide) (hts (.fieldLink RX3 11 "HeatPumpPlant$Curve" "outdoors" "[I") (List.mem_of_getElem? (i := 1) rfl)) (fun _ h9 => h9) rfl dX3_copyFrom_1 ?_
  refine lv_aload_n hx hb dX3_copyFrom_4 rfl (lv_at hl 0 rfl) ?_
  refine va_get (D := D) (ci := 3) (v := .ref b1) (C := RX3) (T := TX3) (N := 3) hx hb hts hinX3 hown hQ.1 hP 0 rfl rfl 0 (by decide) (hts (.fieldLink RX3 11 "HeatPumpPlant$Curve" "outdoors" "[I") (List.mem_of_getElem? (i := 1) rfl)) (fun _ h9 => h9) rfl dX3_copyFrom_5 ?_
  have hP : va_P D vwCl (wF [[(b0, .inr (3, [.ref b1, .ref b2, .int x0.2.2]))], gI cI b1 6 x0.1, gI cI b2 6 x0.2.1, [(b3, .inr (3, [.ref b4, .ref b5, .int x1.2.2]))], gI cI b4 6 x1.1, gI cI b5 6 x1.2.1]) s.heap := hP
  have hD : va_D A (wF [[(b0, .inr (3, [.ref b1, .ref b2, .int x0.2.2]))], gI cI b1 6 x0.1, gI cI b2 6 x0.2.1, [(b3, .inr (3, [.ref b4, .ref b5, .int x1.2.2]))], gI cI b4 6 x1.1, gI cI b5 6 x1.2.1]) := hD
  have hPc : va_P D vwCl (wF [gI cI b4 6 x1.1, gI cI b1 6 x0.1]) s.heap := w_psub hP [4, 1] rfl
  have hDc : va_D A (wF [gI cI b4 6 x1.1, gI cI b1 6 x0.1]) := w_gsub hD [4, 1] rfl rfl
  refine c_Mv (F := F10_copyRow 6 x1.1 x0.1) (G1 := (fun w => [gI cI b4 6 x1.1, gI cI b1 6 w])) (Gr := [[(b0, .inr (3, [.ref b1, .ref b2, .int x0.2.2]))], gI cI b2 6 x0.2.1, [(b3, .inr (3, [.ref b4, .ref b5, .int x1.2.2]))], gI cI b5 6 x1.2.1]) (Gs' := fun z1 => [[(b0, .inr (3, [.ref b1, .ref b2, .int x0.2.2]))], gI cI b1 6 z1, gI cI b2 6 x0.2.1, [(b3, .inr (3, [.ref b4, .ref b5, .int x1.2.2]))], gI cI b4 6 x1.1, gI cI b5 6 x1.2.1]) (va_runSN (As := [.ref b4, .ref b1]) (rest := []) ⟨hx, hb, hml, hown, hts⟩ (m10_copyRow l D cI cL cP b4 6 b1 x1.1 x0.1 (by decide) s.heap.size) ⟨va_cnB 2 hts gX3_copyFrom_X10_copyRow_n26 rfl rfl rfl (hQ.2 (RX3, 26, yX10_copyRow, "HeatPumpPlant") (List.mem_of_getElem? (i := 6) rfl)) (hts (.initialized RX10) (List.mem_of_getElem? (i := 5) rfl)) (by decide +kernel) ⟨Nat.le_of_ble_eq_true rfl, Nat.le_of_ble_eq_true rfl⟩, (hts (.static yX10_copyRow) (List.mem_of_getElem? (i := 4) rfl)), trivial⟩ (preM_S hQ hPc hDc) rfl rfl hl.1 rfl (lv_room (Nat.le_of_ble_eq_true rfl)) dX3_copyFrom_8 ⟨Nat.le_of_ble_eq_true rfl, Nat.le_of_ble_eq_true rfl⟩) hS hA hP hD [4, 1] [0, 2, 3, 5] [2, 1, 3, 4, 0, 5] rfl rfl rfl rfl rfl (fun _ => rfl) (fun z1 H locs hz1 hP hD hS => ?_)
  have hP : va_P D vwCl (wF [gK cI b0 b1 b2 (z1, x0.2.1, x0.2.2), gK cI b3 b4 b5 x1]) H := hP
  have hD : va_D A (wF [gK cI b0 b1 b2 (z1, x0.2.1, x0.2.2), gK cI b3 b4 b5 x1]) := hD
  refine lv_aload_n hx hb dX3_copyFrom_11 rfl (lv_at hl 1 rfl) ?_
  refine va_get (D := D) (ci := 3) (v := .ref b5) (C := RX3) (T := TX3) (N := 3) hx hb hts hinX3 hown hQ.1 hP 3 rfl rfl 1 (by decide) (hts (.fieldLink RX3 15 "HeatPumpPlant$Curve" "supplies" "[I") (List.mem_of_getElem? (i := 2) rfl)) (fun _ h9 => h9) rfl dX3_copyFrom_12 ?_
  refine lv_aload_n hx hb dX3_copyFrom_15 rfl (lv_at hl 0 rfl) ?_
  refine va_get (D := D) (ci := 3) (v := .ref b2) (C := RX3) (T := TX3) (N := 3) hx hb hts hinX3 hown hQ.1 hP 0 rfl rfl 1 (by decide) (hts (.fieldLink RX3 15 "HeatPumpPlant$Curve" "supplies" "[I") (List.mem_of_getElem? (i := 2) rfl)) (fun _ h9 => h9) rfl dX3_copyFrom_16 ?_
  have hP : va_P D vwCl (wF [[(b0, .inr (3, [.ref b1, .ref b2, .int x0.2.2]))], gI cI b1 6 z1, gI cI b2 6 x0.2.1, [(b3, .inr (3, [.ref b4, .ref b5, .int x1.2.2]))], gI cI b4 6 x1.1, gI cI b5 6 x1.2.1]) H := hP
  have hD : va_D A (wF [[(b0, .inr (3, [.ref b1, .ref b2, .int x0.2.2]))], gI cI b1 6 z1, gI cI b2 6 x0.2.1, [(b3, .inr (3, [.ref b4, .ref b5, .int x1.2.2]))], gI cI b4 6 x1.1, gI cI b5 6 x1.2.1]) := hD
  have hPc : va_P D vwCl (wF [gI cI b5 6 x1.2.1, gI cI b2 6 x0.2.1]) H := w_psub hP [5, 2] rfl
  have hDc : va_D A (wF [gI cI b5 6 x1.2.1, gI cI b2 6 x0.2.1]) := w_gsub hD [5, 2] rfl rfl
  refine c_Mv (F := F10_copyRow 6 x1.2.1 x0.2.1) (G1 := (fun w => [gI cI b5 6 x1.2.1, gI cI b2 6 w])) (Gr := [[(b0, .inr (3, [.ref b1, .ref b2, .int x0.2.2]))], gI cI b1 6 z1, [(b3, .inr (3, [.ref b4, .ref b5, .int x1.2.2]))], gI cI b4 6 x1.1]) (Gs' := fun z2 => [[(b0, .inr (3, [.ref b1, .ref b2, .int x0.2.2]))], gI cI b1 6 z1, gI cI b2 6 z2, [(b3, .inr (3, [.ref b4, .ref b5, .int x1.2.2]))], gI cI b4 6 x1.1, gI cI b5 6 x1.2.1]) (va_runSN (As := [.ref b5, .ref b2]) (rest := []) ⟨hx, hb, hml, hown, hts⟩ (m10_copyRow l D cI cL cP b5 6 b2 x1.2.1 x0.2.1 (by decide) H.size) ⟨va_cnB 2 hts gX3_copyFrom_X10_copyRow_n26 rfl rfl rfl (hQ.2 (RX3, 26, yX10_copyRow, "HeatPumpPlant") (List.mem_of_getElem? (i := 6) rfl)) (hts (.initialized RX10) (List.mem_of_getElem? (i := 5) rfl)) (by decide +kernel) ⟨Nat.le_of_ble_eq_true rfl, Nat.le_of_ble_eq_true rfl⟩, (hts (.static yX10_copyRow) (List.mem_of_getElem? (i := 4) rfl)), trivial⟩ (preM_S hQ hPc hDc) rfl rfl hl.1 rfl (lv_room (Nat.le_of_ble_eq_true rfl)) dX3_copyFrom_19 ⟨Nat.le_of_ble_eq_true rfl, Nat.le_of_ble_eq_true rfl⟩) hS hA hP hD [5, 2] [0, 1, 3, 4] [2, 3, 1, 4, 5, 0] rfl rfl rfl rfl rfl (fun _ => rfl) (fun z2 H locs hz2 hP hD hS => ?_)
  have hP : va_P D vwCl (wF [gK cI b0 b1 b2 (z1, z2, x0.2.2), gK cI b3 b4 b5 x1]) H := hP
  have hD : va_D A (wF [gK cI b0 b1 b2 (z1, z2, x0.2.2), gK cI b3 b4 b5 x1]) := hD
  refine lv_aload_n hx hb dX3_copyFrom_22 rfl (lv_at hl 0 rfl) ?_
  refine lv_aload_n hx hb dX3_copyFrom_23 rfl (lv_at hl 1 rfl) ?_
  refine va_get (D := D) (ci := 3) (v := .int x1.2.2) (C := RX3) (T := TX3) (N := 3) hx hb hts hinX3 hown hQ.1 hP 3 rfl rfl 2 (by decide) (hts (.fieldLink RX3 18 "HeatPumpPlant$Curve" "count" "I") (List.mem_of_getElem? (i := 3) rfl)) (fun _ h9 => h9) rfl dX3_copyFrom_24 ?_
  refine va_put (D := D) (ci := 3) (v := .int x1.2.2) (ty := .int) (C := RX3) (T := TX3) (N := 3) hx hb hts hinX3 tyX3 tyX3_ok nmX3 hown hQ.1 hP hD hS 0 rfl rfl 2 (by decide) (hts (.fieldLink RX3 18 "HeatPumpPlant$Curve" "count" "I") (List.mem_of_getElem? (i := 3) rfl)) (fun _ h9 => h9) rfl (by decide +kernel) rfl rfl (Nat.le_of_ble_eq_true rfl) dX3_copyFrom_27 (fun H locs hP hD hS => ?_)
  have hP : va_P D vwCl (wF [gK cI b0 b1 b2 (z1, z2, x1.2.2), gK cI b3 b4 b5 x1]) H := hP
  have hD : va_D A (wF [gK cI b0 b1 b2 (z1, z2, x1.2.2), gK cI b3 b4 b5 x1]) := hD
  exact W.vret hx hb hr (fun t ht hW => ⟨⟨(z1, z2, x1.2.2), rfl, ((Eq.trans (congrArg (K3_copyFrom_1 x0 x1) hz1.symm) (Eq.trans (congrArg (K3_copyFrom_2 x0 x1 z1) hz2.symm) (rfl))).symm), by rw [ht]; exact hP, hD⟩, hS.F ht⟩) hS.2.2 dX3_copyFrom_30
def K0_countMinute_1 (x0 : SA) (p1 : Int32) (z1 : SS) : SA := (if p1 = (11 : Int32) then (z1, p1, (x0.2.2.1 + (1 : Int32)), x0.2.2.2.1, x0.2.2.2.2.1, x0.2.2.2.2.2.1, x0.2.2.2.2.2.2.1, x0.2.2.2.2.2.2.2.1, x0.2.2.2.2.2.2.2.2.1, x0.2.2.2.2.2.2.2.2.2.1, x0.2.2.2.2.2.2.2.2.2.2) else (if p1 = (4 : Int32) then (z1, p1, x0.2.2.1, (x0.2.2.2.1 + (1 : Int32)), x0.2.2.2.2.1, x0.2.2.2.2.2.1, x0.2.2.2.2.2.2.1, x0.2.2.2.2.2.2.2.1, x0.2.2.2.2.2.2.2.2.1, x0.2.2.2.2.2.2.2.2.2.1, x0.2.2.2.2.2.2.2.2.2.2) else (z1, p1, x0.2.2.1, x0.2.2.2.1, x0.2.2.2.2.1, x0.2.2.2.2.2.1, x0.2.2.2.2.2.2.1, x0.2.2.2.2.2.2.2.1, x0.2.2.2.2.2.2.2.2.1, x0.2.2.2.2.2.2.2.2.2.1, x0.2.2.2.2.2.2.2.2.2.2)))
def F0_countMinute (x0 : SA) (p1 : Int32) : SA := (K0_countMinute_1 x0 p1 (F10_replace 12 x0.1 p1 ((F10_elementOr 12 x0.1 p1 (0 : Int32)) + (1 : Int32))))
set_option maxHeartbeats 4000000 in
set_option maxRecDepth 100000 in
theorem m0_countMinute (l : Launch) (D : va_G) (cI cL cP : ClassId) (b0 : Nat) (b1 : Nat) (x0 : SA) (p1 : Int32) (sz : Nat) : Met l yX0_countMinute wsX0_countMinute ({ frames := 1, cells := 0, slots := 0, locals := 22 }) (va_Pc [.ref b0, .int p1] (pM D cI cL cP sz (wF [gA cI b0 b1 x0]))) (va_Qv (fun (w : SA) => w = F0_countMinute x0 p1) (qW D (va_A (wF [gA cI b0 b1 x0]) sz) (fun w : SA => (wF [gA cI b0 b1 w]))) (va_A (wF [gA cI b0 b1 x0]) sz)) 0 0 (va_A (wF [gA cI b0 b1 x0]) sz) := by
  refine Met.ofW (cc := cX0_countMinute) (maxL := 2) (ret := none) (by decide) rfl ?_
  intro p e s m args below meth c s₁ B hml hv
  obtain ⟨rfl, hsz, hP, hQ, hD0⟩ := hv
  have hx := B.exec
  have hb := B.bytes
  have hr := B.returns
  have hts := atoms_spec (ws := wsX0_countMinute) B.pre
  have hown : s.vm.findClass RX0 = some m.cls := findClass_of_methodNamed B.named
  have hlocks := B.notSynchronized
  subst hsz
  have hD := hD0.self (sz := s.heap.size)
  generalize hAe : va_A (wF [gA cI b0 b1 x0]) s.heap.size = A at hD ⊢
  have hA : ∀ q : Nat, s.heap.size ≤ q → A q := fun q h => by rw [← hAe]; exact Or.inr h
  have hS : va_S A s.heap s.heap [] := va_S.rf
  have hP : va_P D vwCl (wF [gA cI b0 b1 x0]) s.heap := hP
  have hl := lv_entry ([.ref b0, .int p1]) (n := 2) (Nat.le_of_ble_eq_true rfl)
  rw [lg_entry_eq]
  generalize (lg_sl ([.ref b0, .int p1]) ++ List.replicate (2 - (lg_sl ([.ref b0, .int p1])).length) Slot.unset).toArray = ls at hl ⊢
  have hl : lv_has ls 2 [(0, .ref b0), (1, .int p1)] := hl
  have hinX0 : ∀ w ∈ wsX00, w ∈ wsX0_countMinute := fun _ h => List.mem_cons_of_mem _ (List.mem_append_right _ h)
  refine lv_aload_n hx hb dX0_countMinute_0 rfl (lv_at hl 0 rfl) ?_
  refine lv_iload_n hx hb dX0_countMinute_1 rfl (lv_at hl 1 rfl) ?_
  refine va_put (D := D) (ci := 0) (v := .int p1) (ty := .int) (C := RX0) (T := TX0) (N := 11) hx hb hts hinX0 tyX0 tyX0_ok nmX0 hown hQ.1 hP hD hS 0 rfl rfl 1 (by decide) (hts (.fieldLink RX0 17 "HeatPumpPlant$Accounts" "latestReason" "I") (List.mem_of_getElem? (i := 1) rfl)) (fun _ h9 => h9) rfl (by decide +kernel) rfl rfl (Nat.le_of_ble_eq_true rfl) dX0_countMinute_2 (fun H locs hP hD hS => ?_)
  have hP : va_P D vwCl (wF [gA cI b0 b1 (x0.1, p1, x0.2.2.1, x0.2.2.2.1, x0.2.2.2.2.1, x0.2.2.2.2.2.1, x0.2.2.2.2.2.2.1, x0.2.2.2.2.2.2.2.1, x0.2.2.2.2.2.2.2.2.1, x0.2.2.2.2.2.2.2.2.2.1, x0.2.2.2.2.2.2.2.2.2.2)]) H := hP
  have hD : va_D A (wF [gA cI b0 b1 (x0.1, p1, x0.2.2.1, x0.2.2.2.1, x0.2.2.2.2.1, x0.2.2.2.2.2.1, x0.2.2.2.2.2.2.1, x0.2.2.2.2.2.2.2.1, x0.2.2.2.2.2.2.2.2.1, x0.2.2.2.2.2.2.2.2.2.1, x0.2.2.2.2.2.2.2.2.2.2)]) := hD
  refine lv_aload_n hx hb dX0_countMinute_5 rfl (lv_at hl 0 rfl) ?_
  refine va_get (D := D) (ci := 0) (v := .ref b1) (C := RX0) (T := TX0) (N := 11) hx hb hts hinX0 hown hQ.1 hP 0 rfl rfl 0 (by decide) (hts (.fieldLink RX0 11 "HeatPumpPlant$Accounts" "minutesByReason" "[I") (List.mem_of_getElem? (i := 2) rfl)) (fun _ h9 => h9) rfl dX0_countMinute_6 ?_
  refine lv_iload_n hx hb dX0_countMinute_9 rfl (lv_at hl 1 rfl) ?_
  refine lv_aload_n hx hb dX0_countMinute_10 rfl (lv_at hl 0 rfl) ?_
  refine va_get (D := D) (ci := 0) (v := .ref b1) (C := RX0) (T := TX0) (N := 11) hx hb hts hinX0 hown hQ.1 hP 0 rfl rfl 0 (by decide) (hts (.fieldLink RX0 11 "HeatPumpPlant$Accounts" "minutesByReason" "[I") (List.mem_of_getElem? (i := 2) rfl)) (fun _ h9 => h9) rfl dX0_countMinute_11 ?_
  refine lv_iload_n hx hb dX0_countMinute_14 rfl (lv_at hl 1 rfl) ?_
  refine lv_iconst (v := (0 : Int32)) hx hb dX0_countMinute_15 (by decide) ?_
  have hPc : va_P D vwCl (wF [gI cI b1 12 x0.1]) H := hP.sub [1] rfl
  refine c_Ri (va_runSN (As := [.ref b1, .int p1, .int (0 : Int32)]) (rest := [.int p1, .ref b1]) ⟨hx, hb, hml, hown, hts⟩ (m10_elementOr l D cI cL cP b1 12 x0.1 p1 (0 : Int32) (by decide) H) ⟨va_cnB 3 hts gX0_countMinute_X10_elementOr_n53 rfl rfl rfl (hQ.2 (RX0, 53, yX10_elementOr, "HeatPumpPlant") (List.mem_of_getElem? (i := 18) rfl)) (hts (.initialized RX10) (List.mem_of_getElem? (i := 6) rfl)) (by decide +kernel) ⟨Nat.le_of_ble_eq_true rfl, Nat.le_of_ble_eq_true rfl⟩, (hts (.static yX10_elementOr) (List.mem_of_getElem? (i := 5) rfl)), trivial⟩ (preR_S hQ hPc) rfl rfl hl.1 rfl (lv_room (Nat.le_of_ble_eq_true rfl)) dX0_countMinute_16 ⟨Nat.le_of_ble_eq_true rfl, Nat.le_of_ble_eq_true rfl⟩) hS (fun locs hS => ?_)
  refine lv_iconst (v := (1 : Int32)) hx hb dX0_countMinute_19 (by decide) ?_
  refine lv_iadd hx hb dX0_countMinute_20 ?_
  have hP : va_P D vwCl (wF [[(b0, .inr (0, [.ref b1, .int p1, .int x0.2.2.1, .int x0.2.2.2.1, .long x0.2.2.2.2.1, .long x0.2.2.2.2.2.1, .long x0.2.2.2.2.2.2.1, .long x0.2.2.2.2.2.2.2.1, .long x0.2.2.2.2.2.2.2.2.1, .long x0.2.2.2.2.2.2.2.2.2.1, .long x0.2.2.2.2.2.2.2.2.2.2]))], gI cI b1 12 x0.1]) H := hP
  have hD : va_D A (wF [[(b0, .inr (0, [.ref b1, .int p1, .int x0.2.2.1, .int x0.2.2.2.1, .long x0.2.2.2.2.1, .long x0.2.2.2.2.2.1, .long x0.2.2.2.2.2.2.1, .long x0.2.2.2.2.2.2.2.1, .long x0.2.2.2.2.2.2.2.2.1, .long x0.2.2.2.2.2.2.2.2.2.1, .long x0.2.2.2.2.2.2.2.2.2.2]))], gI cI b1 12 x0.1]) := hD
  have hPc : va_P D vwCl (wF [gI cI b1 12 x0.1]) H := w_psub hP [1] rfl
  have hDc : va_D A (wF [gI cI b1 12 x0.1]) := w_gsub hD [1] rfl rfl
  refine c_Mv (F := F10_replace 12 x0.1 p1 ((F10_elementOr 12 x0.1 p1 (0 : Int32)) + (1 : Int32))) (G1 := (fun w => [gI cI b1 12 w])) (Gr := [[(b0, .inr (0, [.ref b1, .int p1, .int x0.2.2.1, .int x0.2.2.2.1, .long x0.2.2.2.2.1, .long x0.2.2.2.2.2.1, .long x0.2.2.2.2.2.2.1, .long x0.2.2.2.2.2.2.2.1, .long x0.2.2.2.2.2.2.2.2.1, .long x0.2.2.2.2.2.2.2.2.2.1, .long x0.2.2.2.2.2.2.2.2.2.2]))]]) (Gs' := fun z1 => [[(b0, .inr (0, [.ref b1, .int p1, .int x0.2.2.1, .int x0.2.2.2.1, .long x0.2.2.2.2.1, .long x0.2.2.2.2.2.1, .long x0.2.2.2.2.2.2.1, .long x0.2.2.2.2.2.2.2.1, .long x0.2.2.2.2.2.2.2.2.1, .long x0.2.2.2.2.2.2.2.2.2.1, .long x0.2.2.2.2.2.2.2.2.2.2]))], gI cI b1 12 z1]) (va_runSN (As := [.ref b1, .int p1, .int ((F10_elementOr 12 x0.1 p1 (0 : Int32)) + (1 : Int32))]) (rest := []) ⟨hx, hb, hml, hown, hts⟩ (m10_replace l D cI cL cP b1 12 x0.1 p1 ((F10_elementOr 12 x0.1 p1 (0 : Int32)) + (1 : Int32)) (by decide) H.size) ⟨va_cnB 3 hts gX0_countMinute_X10_replace_n57 rfl rfl rfl (hQ.2 (RX0, 57, yX10_replace, "HeatPumpPlant") (List.mem_of_getElem? (i := 19) rfl)) (hts (.initialized RX10) (List.mem_of_getElem? (i := 6) rfl)) (by decide +kernel) ⟨Nat.le_of_ble_eq_true rfl, Nat.le_of_ble_eq_true rfl⟩, (hts (.static yX10_replace) (List.mem_of_getElem? (i := 8) rfl)), trivial⟩ (preM_S hQ hPc hDc) rfl rfl hl.1 rfl (lv_room (Nat.le_of_ble_eq_true rfl)) dX0_countMinute_21 ⟨Nat.le_of_ble_eq_true rfl, Nat.le_of_ble_eq_true rfl⟩) hS hA hP hD [1] [0] [1, 0] rfl rfl rfl rfl rfl (fun _ => rfl) (fun z1 H locs hz1 hP hD hS => ?_)
  have hP : va_P D vwCl (wF [gA cI b0 b1 (z1, p1, x0.2.2.1, x0.2.2.2.1, x0.2.2.2.2.1, x0.2.2.2.2.2.1, x0.2.2.2.2.2.2.1, x0.2.2.2.2.2.2.2.1, x0.2.2.2.2.2.2.2.2.1, x0.2.2.2.2.2.2.2.2.2.1, x0.2.2.2.2.2.2.2.2.2.2)]) H := hP
  have hD : va_D A (wF [gA cI b0 b1 (z1, p1, x0.2.2.1, x0.2.2.2.1, x0.2.2.2.2.1, x0.2.2.2.2.2.1, x0.2.2.2.2.2.2.1, x0.2.2.2.2.2.2.2.1, x0.2.2.2.2.2.2.2.2.1, x0.2.2.2.2.2.2.2.2.2.1, x0.2.2.2.2.2.2.2.2.2.2)]) := hD
  refine lv_iload_n hx hb dX0_countMinute_24 rfl (lv_at hl 1 rfl) ?_
  refine lv_bipush (v := (11 : Int32)) hx hb dX0_countMinute_25 (by decide) ?_
  refine lv_icmp_ne (tgt := 43) hx hb dX0_countMinute_27 (by decide) (fun c2 => ?_) (fun c2 => ?_)
  · have c2 : ¬ (p1 = (11 : Int32)) := c2
    refine lv_iload_n hx hb dX0_countMinute_43 rfl (lv_at hl 1 rfl) ?_
    refine lv_iconst (v := (4 : Int32)) hx hb dX0_countMinute_44 (by decide) ?_
    refine lv_icmp_ne (tgt := 58) hx hb dX0_countMinute_45 (by decide) (fun c3 => ?_) (fun c3 => ?_)
    · have c3 : ¬ (p1 = (4 : Int32)) := c3
      exact W.vret hx hb hr (fun t ht hW => ⟨⟨(z1, p1, x0.2.2.1, x0.2.2.2.1, x0.2.2.2.2.1, x0.2.2.2.2.2.1, x0.2.2.2.2.2.2.1, x0.2.2.2.2.2.2.2.1, x0.2.2.2.2.2.2.2.2.1, x0.2.2.2.2.2.2.2.2.2.1, x0.2.2.2.2.2.2.2.2.2.2), rfl, ((Eq.trans (congrArg (K0_countMinute_1 x0 p1) hz1.symm) (Eq.trans (if_neg c2) (Eq.trans (if_neg c3) (rfl)))).symm), by rw [ht]; exact hP, hD⟩, hS.F ht⟩) hS.2.2 dX0_countMinute_58
    · have c3 : p1 = (4 : Int32) := c3
      refine lv_aload_n hx hb dX0_countMinute_48 rfl (lv_at hl 0 rfl) ?_
      refine lv_dup hx hb dX0_countMinute_49 rfl ?_
      refine va_get (D := D) (ci := 0) (v := .int x0.2.2.2.1) (C := RX0) (T := TX0) (N := 11) hx hb hts hinX0 hown hQ.1 hP 0 rfl rfl 3 (by decide) (hts (.fieldLink RX0 28 "HeatPumpPlant$Accounts" "defrosts" "I") (List.mem_of_getElem? (i := 4) rfl)) (fun _ h9 => h9) rfl dX0_countMinute_50 ?_
      refine lv_iconst (v := (1 : Int32)) hx hb dX0_countMinute_53 (by decide) ?_
      refine lv_iadd hx hb dX0_countMinute_54 ?_
      refine va_put (D := D) (ci := 0) (v := .int (x0.2.2.2.1 + (1 : Int32))) (ty := .int) (C := RX0) (T := TX0) (N := 11) hx hb hts hinX0 tyX0 tyX0_ok nmX0 hown hQ.1 hP hD hS 0 rfl rfl 3 (by decide) (hts (.fieldLink RX0 28 "HeatPumpPlant$Accounts" "defrosts" "I") (List.mem_of_getElem? (i := 4) rfl)) (fun _ h9 => h9) rfl (by decide +kernel) rfl rfl (Nat.le_of_ble_eq_true rfl) dX0_countMinute_55 (fun H locs hP hD hS => ?_)
      have hP : va_P D vwCl (wF [gA cI b0 b1 (z1, p1, x0.2.2.1, (x0.2.2.2.1 + (1 : Int32)), x0.2.2.2.2.1, x0.2.2.2.2.2.1, x0.2.2.2.2.2.2.1, x0.2.2.2.2.2.2.2.1, x0.2.2.2.2.2.2.2.2.1, x0.2.2.2.2.2.2.2.2.2.1, x0.2.2.2.2.2.2.2.2.2.2)]) H := hP
      have hD : va_D A (wF [gA cI b0 b1 (z1, p1, x0.2.2.1, (x0.2.2.2.1 + (1 : Int32)), x0.2.2.2.2.1, x0.2.2.2.2.2.1, x0.2.2.2.2.2.2.1, x0.2.2.2.2.2.2.2.1, x0.2.2.2.2.2.2.2.2.1, x0.2.2.2.2.2.2.2.2.2.1, x0.2.2.2.2.2.2.2.2.2.2)]) := hD
      exact W.vret hx hb hr (fun t ht hW => ⟨⟨(z1, p1, x0.2.2.1, (x0.2.2.2.1 + (1 : Int32)), x0.2.2.2.2.1, x0.2.2.2.2.2.1, x0.2.2.2.2.2.2.1, x0.2.2.2.2.2.2.2.1, x0.2.2.2.2.2.2.2.2.1, x0.2.2.2.2.2.2.2.2.2.1, x0.2.2.2.2.2.2.2.2.2.2), rfl, ((Eq.trans (congrArg (K0_countMinute_1 x0 p1) hz1.symm) (Eq.trans (if_neg c2) (Eq.trans (if_pos c3) (rfl)))).symm), by rw [ht]; exact hP, hD⟩, hS.F ht⟩) hS.2.2 dX0_countMinute_58
  · have c2 : p1 = (11 : Int32) := c2
    refine lv_aload_n hx hb dX0_countMinute_30 rfl (lv_at hl 0 rfl) ?_
    refine lv_dup hx hb dX0_countMinute_31 rfl ?_
    refine va_get (D := D) (ci := 0) (v := .int x0.2.2.1) (C := RX0) (T := TX0) (N := 11) hx hb hts hinX0 hown hQ.1 hP 0 rfl rfl 2 (by decide) (hts (.fieldLink RX0 25 "HeatPumpPlant$Accounts" "starts" "I") (List.mem_of_getElem? (i := 3) rfl)) (fun _ h9 => h9) rfl dX0_countMinute_32 ?_
    refine lv_iconst (v := (1 : Int32)) hx hb dX0_countMinute_35 (by decide) ?_
    refine lv_iadd hx hb dX0_countMinute_36 ?_
    refine va_put (D := D) (ci := 0) (v := .int (x0.2.2.1 + (1 : Int32))) (ty := .int) (C := RX0) (T := TX0) (N := 11) hx hb hts hinX0 tyX0 tyX0_ok nmX0 hown hQ.1 hP hD hS 0 rfl rfl 2 (by decide) (hts (.fieldLink RX0 25 "HeatPumpPlant$Accounts" "starts" "I") (List.mem_of_getElem? (i := 3) rfl)) (fun _ h9 => h9) rfl (by decide +kernel) rfl rfl (Nat.le_of_ble_eq_true rfl) dX0_countMinute_37 (fun H locs hP hD hS => ?_)
    have hP : va_P D vwCl (wF [gA cI b0 b1 (z1, p1, (x0.2.2.1 + (1 : Int32)), x0.2.2.2.1, x0.2.2.2.2.1, x0.2.2.2.2.2.1, x0.2.2.2.2.2.2.1, x0.2.2.2.2.2.2.2.1, x0.2.2.2.2.2.2.2.2.1, x0.2.2.2.2.2.2.2.2.2.1, x0.2.2.2.2.2.2.2.2.2.2)]) H := hP
    have hD : va_D A (wF [gA cI b0 b1 (z1, p1, (x0.2.2.1 + (1 : Int32)), x0.2.2.2.1, x0.2.2.2.2.1, x0.2.2.2.2.2.1, x0.2.2.2.2.2.2.1, x0.2.2.2.2.2.2.2.1, x0.2.2.2.2.2.2.2.2.1, x0.2.2.2.2.2.2.2.2.2.1, x0.2.2.2.2.2.2.2.2.2.2)]) := hD
    refine lv_goto (tgt := 58) hx hb dX0_countMinute_40 (by decide) ?_
    exact W.vret hx hb hr (fun t ht hW => ⟨⟨(z1, p1, (x0.2.2.1 + (1 : Int32)), x0.2.2.2.1, x0.2.2.2.2.1, x0.2.2.2.2.2.1, x0.2.2.2.2.2.2.1, x0.2.2.2.2.2.2.2.1, x0.2.2.2.2.2.2.2.2.1, x0.2.2.2.2.2.2.2.2.2.1, x0.2.2.2.2.2.2.2.2.2.2), rfl, ((Eq.trans (congrArg (K0_countMinute_1 x0 p1) hz1.symm) (Eq.trans (if_pos c2) (rfl))).symm), by rw [ht]; exact hP, hD⟩, hS.F ht⟩) hS.2.2 dX0_countMinute_58
def F6_endDefrosting (x0 : SP) (p1 : Int32) : SP := (if x0.1 = (2 : Int32) then (if x0.2.2.2.1 < p1 then x0 else ((1 : Int32), x0.2.1, x0.2.2.1, x0.2.2.2.1, (0 : Int32), x0.2.2.2.2.2.1, x0.2.2.2.2.2.2)) else x0)
set_option maxHeartbeats 4000000 in
set_option maxRecDepth 100000 in
theorem m6_endDefrosting (l : Launch) (D : va_G) (cI cL cP : ClassId) (b0 : Nat) (b1 : Nat) (x0 : SP) (p1 : Int32) (sz : Nat) : Met l yX6_endDefrosting wsX6_endDefrosting ({ frames := 0, cells := 0, slots := 0, locals := 0 }) (va_Pc [.ref b0, .int p1] (pM D cI cL cP sz (wF [gP cI b0 b1 x0]))) (va_Qv (fun (w : SP) => w = F6_endDefrosting x0 p1) (qW D (va_A (wF [gP cI b0 b1 x0]) sz) (fun w : SP => (wF [gP cI b0 b1 w]))) (va_A (wF [gP cI b0 b1 x0]) sz)) 0 0 (va_A (wF [gP cI b0 b1 x0]) sz) := by
  refine Met.ofW (cc := cX6_endDefrosting) (maxL := 2) (ret := none) (by decide) rfl ?_
  intro p e s m args below meth c s₁ B hml hv
  obtain ⟨rfl, hsz, hP, hQ, hD0⟩ := hv
  have hx := B.exec
  have hb := B.bytes
  have hr := B.returns
  have hts := atoms_spec (ws := wsX6_endDefrosting) B.pre
  have hown : s.vm.findClass RX6 = some m.cls := findClass_of_methodNamed B.named
  have hlocks := B.notSynchronized
  subst hsz
  have hD := hD0.self (sz := s.heap.size)
  generalize hAe : va_A (wF [gP cI b0 b1 x0]) s.heap.size = A at hD ⊢
  have hA : ∀ q : Nat, s.heap.size ≤ q → A q := fun q h => by rw [← hAe]; exact Or.inr h
  have hS : va_S A s.heap s.heap [] := va_S.rf
  have hP : va_P D vwCl (wF [gP cI b0 b1 x0]) s.heap := hP
  have hl := lv_entry ([.ref b0, .int p1]) (n := 2) (Nat.le_of_ble_eq_true rfl)
  rw [lg_entry_eq]
  generalize (lg_sl ([.ref b0, .int p1]) ++ List.replicate (2 - (lg_sl ([.ref b0, .int p1])).length) Slot.unset).toArray = ls at hl ⊢
  have hl : lv_has ls 2 [(0, .ref b0), (1, .int p1)] := hl
  have hinX6 : ∀ w ∈ wsX60, w ∈ wsX6_endDefrosting := fun _ h => List.mem_cons_of_mem _ (List.mem_append_right _ h)
  refine lv_aload_n hx hb dX6_endDefrosting_0 rfl (lv_at hl 0 rfl) ?_
  refine va_get (D := D) (ci := 6) (v := .int x0.1) (C := RX6) (T := TX6) (N := 7) hx hb hts hinX6 hown hQ.1 hP 0 rfl rfl 0 (by decide) (hts (.fieldLink RX6 9 "HeatPumpPlant$Pump" "mode" "I") (List.mem_of_getElem? (i := 1) rfl)) (fun _ h9 => h9) rfl dX6_endDefrosting_1 ?_
  refine lv_iconst (v := (2 : Int32)) hx hb dX6_endDefrosting_4 (by decide) ?_
  refine lv_icmp_ne (tgt := 26) hx hb dX6_endDefrosting_5 (by decide) (fun c1 => ?_) (fun c1 => ?_)
  · have c1 : ¬ (x0.1 = (2 : Int32)) := c1
    exact W.vret hx hb hr (fun t ht hW => ⟨⟨x0, rfl, ((Eq.trans (if_neg c1) (rfl)).symm), by rw [ht]; exact hP, hD⟩, hS.F ht⟩) hS.2.2 dX6_endDefrosting_26
  · have c1 : x0.1 = (2 : Int32) := c1
    refine lv_aload_n hx hb dX6_endDefrosting_8 rfl (lv_at hl 0 rfl) ?_
    refine va_get (D := D) (ci := 6) (v := .int x0.2.2.2.1) (C := RX6) (T := TX6) (N := 7) hx hb hts hinX6 hown hQ.1 hP 0 rfl rfl 3 (by decide) (hts (.fieldLink RX6 25 "HeatPumpPlant$Pump" "defrostMinutes" "I") (List.mem_of_getElem? (i := 2) rfl)) (fun _ h9 => h9) rfl dX6_endDefrosting_9 ?_
    refine lv_iload_n hx hb dX6_endDefrosting_12 rfl (lv_at hl 1 rfl) ?_
    refine lv_icmp_lt (tgt := 26) hx hb dX6_endDefrosting_13 (by decide) (fun c2 => ?_) (fun c2 => ?_)
    · have c2 : x0.2.2.2.1 < p1 := c2
      exact W.vret hx hb hr (fun t ht hW => ⟨⟨x0, rfl, ((Eq.trans (if_pos c1) (Eq.trans (if_pos c2) (rfl))).symm), by rw [ht]; exact hP, hD⟩, hS.F ht⟩) hS.2.2 dX6_endDefrosting_26
    · have c2 : ¬ (x0.2.2.2.1 < p1) := c2
      refine lv_aload_n hx hb dX6_endDefrosting_16 rfl (lv_at hl 0 rfl) ?_
      refine lv_iconst (v := (1 : Int32)) hx hb dX6_endDefrosting_17 (by decide) ?_
      refine va_put (D := D) (ci := 6) (v := .int (1 : Int32)) (ty := .int) (C := RX6) (T := TX6) (N := 7) hx hb hts hinX6 tyX6 tyX6_ok nmX6 hown hQ.1 hP hD hS 0 rfl rfl 0 (by decide) (hts (.fieldLink RX6 9 "HeatPumpPlant$Pump" "mode" "I") (List.mem_of_getElem? (i := 1) rfl)) (fun _ h9 => h9) rfl (by decide +kernel) rfl rfl (Nat.le_of_ble_eq_true rfl) dX6_endDefrosting_18 (fun H locs hP hD hS => ?_)
      have hP : va_P D vwCl (wF [gP cI b0 b1 ((1 : Int32), x0.2.1, x0.2.2.1, x0.2.2.2.1, x0.2.2.2.2.1, x0.2.2.2.2.2.1, x0.2.2.2.2.2.2)]) H := hP
      have hD : va_D A (wF [gP cI b0 b1 ((1 : Int32), x0.2.1, x0.2.2.1, x0.2.2.2.1, x0.2.2.2.2.1, x0.2.2.2.2.2.1, x0.2.2.2.2.2.2)]) := hD
      refine lv_aload_n hx hb dX6_endDefrosting_21 rfl (lv_at hl 0 rfl) ?_
      refine lv_iconst (v := (0 : Int32)) hx hb dX6_endDefrosting_22 (by decide) ?_
      refine va_put (D := D) (ci := 6) (v := .int (0 : Int32)) (ty := .int) (C := RX6) (T := TX6) (N := 7) hx hb hts hinX6 tyX6 tyX6_ok nmX6 hown hQ.1 hP hD hS 0 rfl rfl 4 (by decide) (hts (.fieldLink RX6 28 "HeatPumpPlant$Pump" "frost" "I") (List.mem_of_getElem? (i := 3) rfl)) (fun _ h9 => h9) rfl (by decide +kernel) rfl rfl (Nat.le_of_ble_eq_true rfl) dX6_endDefrosting_23 (fun H locs hP hD hS => ?_)
      have hP : va_P D vwCl (wF [gP cI b0 b1 ((1 : Int32), x0.2.1, x0.2.2.1, x0.2.2.2.1, (0 : Int32), x0.2.2.2.2.2.1, x0.2.2.2.2.2.2)]) H := hP
      have hD : va_D A (wF [gP cI b0 b1 ((1 : Int32), x0.2.1, x0.2.2.1, x0.2.2.2.1, (0 : Int32), x0.2.2.2.2.2.1, x0.2.2.2.2.2.2)]) := hD
      exact W.vret hx hb hr (fun t ht hW => ⟨⟨((1 : Int32), x0.2.1, x0.2.2.1, x0.2.2.2.1, (0 : Int32), x0.2.2.2.2.2.1, x0.2.2.2.2.2.2), rfl, ((Eq.trans (if_pos c1) (Eq.trans (if_neg c2) (rfl))).symm), by rw [ht]; exact hP, hD⟩, hS.F ht⟩) hS.2.2 dX6_endDefrosting_26
def F6_obey (x0 : SP) (p1 : Int32) : SP := (if p1 = (1 : Int32) then ((0 : Int32), x0.2.1, (0 : Int32), x0.2.2.2.1, x0.2.2.2.2.1, x0.2.2.2.2.2.1, x0.2.2.2.2.2.2) else (if p1 = (3 : Int32) then ((0 : Int32), x0.2.1, (0 : Int32), x0.2.2.2.1, x0.2.2.2.2.1, x0.2.2.2.2.2.1, x0.2.2.2.2.2.2) else (if p1 = (4 : Int32) then ((2 : Int32), x0.2.1, x0.2.2.1, (0 : Int32), x0.2.2.2.2.1, x0.2.2.2.2.2.1, x0.2.2.2.2.2.2) else (if p1 = (11 : Int32) then ((1 : Int32), (0 : Int32), x0.2.2.1, x0.2.2.2.1, x0.2.2.2.2.1, x0.2.2.2.2.2.1, x0.2.2.2.2.2.2) else x0))))
set_option maxHeartbeats 4000000 in
set_option maxRecDepth 100000 in
theorem m6_obey (l : Launch) (D : va_G) (cI cL cP : ClassId) (b0 : Nat) (b1 : Nat) (x0 : SP) (p1 : Int32) (sz : Nat) : Met l yX6_obey wsX6_obey ({ frames := 0, cells := 0, slots := 0, locals := 0 }) (va_Pc [.ref b0, .int p1] (pM D cI cL cP sz (wF [gP cI b0 b1 x0]))) (va_Qv (fun (w : SP) => w = F6_obey x0 p1) (qW D (va_A (wF [gP cI b0 b1 x0]) sz) (fun w : SP => (wF [gP cI b0 b1 w]))) (va_A (wF [gP cI b0 b1 x0]) sz)) 0 0 (va_A (wF [gP cI b0 b1 x0]) sz) := by
  refine Met.ofW (cc := cX6_obey) (maxL := 2) (ret := none) (by decide) rfl ?_
  intro p e s m args below meth c s₁ B hml hv
  obtain ⟨rfl, hsz, hP, hQ, hD0⟩ := hv
  have hx := B.exec
  have hb := B.bytes
  have hr := B.returns
  have hts := atoms_spec (ws := wsX6_obey) B.pre
  have hown : s.vm.findClass RX6 = some m.cls := findClass_of_methodNamed B.named
  have hlocks := B.notSynchronized
  subst hsz
  have hD := hD0.self (sz := s.heap.size)
  generalize hAe : va_A (wF [gP cI b0 b1 x0]) s.heap.size = A at hD ⊢
  have hA : ∀ q : Nat, s.heap.size ≤ q → A q := fun q h => by rw [← hAe]; exact Or.inr h
  have hS : va_S A s.heap s.heap [] := va_S.rf
  have hP : va_P D vwCl (wF [gP cI b0 b1 x0]) s.heap := hP
  have hl := lv_entry ([.ref b0, .int p1]) (n := 2) (Nat.le_of_ble_eq_true rfl)
  rw [lg_entry_eq]
  generalize (lg_sl ([.ref b0, .int p1]) ++ List.replicate (2 - (lg_sl ([.ref b0, .int p1])).length) Slot.unset).toArray = ls at hl ⊢
  have hl : lv_has ls 2 [(0, .ref b0), (1, .int p1)] := hl
  have hinX6 : ∀ w ∈ wsX60, w ∈ wsX6_obey := fun _ h => List.mem_cons_of_mem _ (List.mem_append_right _ h)
  refine lv_iload_n hx hb dX6_obey_0 rfl (lv_at hl 1 rfl) ?_
  refine lv_iconst (v := (1 : Int32)) hx hb dX6_obey_1 (by decide) ?_
  refine lv_icmp_eq (tgt := 10) hx hb dX6_obey_2 (by decide) (fun c1 => ?_) (fun c1 => ?_)
  · have c1 : p1 = (1 : Int32) := c1
    refine lv_aload_n hx hb dX6_obey_10 rfl (lv_at hl 0 rfl) ?_
    refine lv_iconst (v := (0 : Int32)) hx hb dX6_obey_11 (by decide) ?_
    refine va_put (D := D) (ci := 6) (v := .int (0 : Int32)) (ty := .int) (C := RX6) (T := TX6) (N := 7) hx hb hts hinX6 tyX6 tyX6_ok nmX6 hown hQ.1 hP hD hS 0 rfl rfl 0 (by decide) (hts (.fieldLink RX6 9 "HeatPumpPlant$Pump" "mode" "I") (List.mem_of_getElem? (i := 1) rfl)) (fun _ h9 => h9) rfl (by decide +kernel) rfl rfl (Nat.le_of_ble_eq_true rfl) dX6_obey_12 (fun H locs hP hD hS => ?_)
    have hP : va_P D vwCl (wF [gP cI b0 b1 ((0 : Int32), x0.2.1, x0.2.2.1, x0.2.2.2.1, x0.2.2.2.2.1, x0.2.2.2.2.2.1, x0.2.2.2.2.2.2)]) H := hP
    have hD : va_D A (wF [gP cI b0 b1 ((0 : Int32), x0.2.1, x0.2.2.1, x0.2.2.2.1, x0.2.2.2.2.1, x0.2.2.2.2.2.1, x0.2.2.2.2.2.2)]) := hD
    refine lv_aload_n hx hb dX6_obey_15 rfl (lv_at hl 0 rfl) ?_
    refine lv_iconst (v := (0 : Int32)) hx hb dX6_obey_16 (by decide) ?_
    refine va_put (D := D) (ci := 6) (v := .int (0 : Int32)) (ty := .int) (C := RX6) (T := TX6) (N := 7) hx hb hts hinX6 tyX6 tyX6_ok nmX6 hown hQ.1 hP hD hS 0 rfl rfl 2 (by decide) (hts (.fieldLink RX6 15 "HeatPumpPlant$Pump" "offMinutes" "I") (List.mem_of_getElem? (i := 2) rfl)) (fun _ h9 => h9) rfl (by decide +kernel) rfl rfl (Nat.le_of_ble_eq_true rfl) dX6_obey_17 (fun H locs hP hD hS => ?_)
    have hP : va_P D vwCl (wF [gP cI b0 b1 ((0 : Int32), x0.2.1, (0 : Int32), x0.2.2.2.1, x0.2.2.2.2.1, x0.2.2.2.2.2.1, x0.2.2.2.2.2.2)]) H := hP
    have hD : va_D A (wF [gP cI b0 b1 ((0 : Int32), x0.2.1, (0 : Int32), x0.2.2.2.1, x0.2.2.2.2.1, x0.2.2.2.2.2.1, x0.2.2.2.2.2.2)]) := hD
    refine lv_goto (tgt := 57) hx hb dX6_obey_20 (by decide) ?_
    exact W.vret hx hb hr (fun t ht hW => ⟨⟨((0 : Int32), x0.2.1, (0 : Int32), x0.2.2.2.1, x0.2.2.2.2.1, x0.2.2.2.2.2.1, x0.2.2.2.2.2.2), rfl, ((Eq.trans (if_pos c1) (rfl)).symm), by rw [ht]; exact hP, hD⟩, hS.F ht⟩) hS.2.2 dX6_obey_57
  · have c1 : ¬ (p1 = (1 : Int32)) := c1
    refine lv_iload_n hx hb dX6_obey_5 rfl (lv_at hl 1 rfl) ?_
    refine lv_iconst (v := (3 : Int32)) hx hb dX6_obey_6 (by decide) ?_
    refine lv_icmp_ne (tgt := 23) hx hb dX6_obey_7 (by decide) (fun c2 => ?_) (fun c2 => ?_)
    · have c2 : ¬ (p1 = (3 : Int32)) := c2
      refine lv_iload_n hx hb dX6_obey_23 rfl (lv_at hl 1 rfl) ?_
      refine lv_iconst (v := (4 : Int32)) hx hb dX6_obey_24 (by decide) ?_
      refine lv_icmp_ne (tgt := 41) hx hb dX6_obey_25 (by decide) (fun c3 => ?_) (fun c3 => ?_)
      · have c3 : ¬ (p1 = (4 : Int32)) := c3
        refine lv_iload_n hx hb dX6_obey_41 rfl (lv_at hl 1 rfl) ?_
        refine lv_bipush (v := (11 : Int32)) hx hb dX6_obey_42 (by decide) ?_
        refine lv_icmp_ne (tgt := 57) hx hb dX6_obey_44 (by decide) (fun c4 => ?_) (fun c4 => ?_)
        · have c4 : ¬ (p1 = (11 : Int32)) := c4
          exact W.vret hx hb hr (fun t ht hW => ⟨⟨x0, rfl, ((Eq.trans (if_neg c1) (Eq.trans (if_neg c2) (Eq.trans (if_neg c3) (Eq.trans (if_neg c4) (rfl))))).symm), by rw [ht]; exact hP, hD⟩, hS.F ht⟩) hS.2.2 dX6_obey_57
        · have c4 : p1 = (11 : Int32) := c4
          refine lv_aload_n hx hb dX6_obey_47 rfl (lv_at hl 0 rfl) ?_
          refine lv_iconst (v := (1 : Int32)) hx hb dX6_obey_48 (by decide) ?_
          refine va_put (D := D) (ci := 6) (v := .int (1 : Int32)) (ty := .int) (C := RX6) (T := TX6) (N := 7) hx hb hts hinX6 tyX6 tyX6_ok nmX6 hown hQ.1 hP hD hS 0 rfl rfl 0 (by decide) (hts (.fieldLink RX6 9 "HeatPumpPlant$Pump" "mode" "I") (List.mem_of_getElem? (i := 1) rfl)) (fun _ h9 => h9) rfl (by decide +kernel) rfl rfl (Nat.le_of_ble_eq_true rfl) dX6_obey_49 (fun H locs hP hD hS => ?_)
          have hP : va_P D vwCl (wF [gP cI b0 b1 ((1 : Int32), x0.2.1, x0.2.2.1, x0.2.2.2.1, x0.2.2.2.2.1, x0.2.2.2.2.2.1, x0.2.2.2.2.2.2)]) H := hP
          have hD : va_D A (wF [gP cI b0 b1 ((1 : Int32), x0.2.1, x0.2.2.1, x0.2.2.2.1, x0.2.2.2.2.1, x0.2.2.2.2.2.1, x0.2.2.2.2.2.2)]) := hD
          refine lv_aload_n hx hb dX6_obey_52 rfl (lv_at hl 0 rfl) ?_
          refine lv_iconst (v := (0 : Int32)) hx hb dX6_obey_53 (by decide) ?_
          refine va_put (D := D) (ci := 6) (v := .int (0 : Int32)) (ty := .int) (C := RX6) (T := TX6) (N := 7) hx hb hts hinX6 tyX6 tyX6_ok nmX6 hown hQ.1 hP hD hS 0 rfl rfl 1 (by decide) (hts (.fieldLink RX6 22 "HeatPumpPlant$Pump" "onMinutes" "I") (List.mem_of_getElem? (i := 4) rfl)) (fun _ h9 => h9) rfl (by decide +kernel) rfl rfl (Nat.le_of_ble_eq_true rfl) dX6_obey_54 (fun H locs hP hD hS => ?_)
          have hP : va_P D vwCl (wF [gP cI b0 b1 ((1 : Int32), (0 : Int32), x0.2.2.1, x0.2.2.2.1, x0.2.2.2.2.1, x0.2.2.2.2.2.1, x0.2.2.2.2.2.2)]) H := hP
          have hD : va_D A (wF [gP cI b0 b1 ((1 : Int32), (0 : Int32), x0.2.2.1, x0.2.2.2.1, x0.2.2.2.2.1, x0.2.2.2.2.2.1, x0.2.2.2.2.2.2)]) := hD
          exact W.vret hx hb hr (fun t ht hW => ⟨⟨((1 : Int32), (0 : Int32), x0.2.2.1, x0.2.2.2.1, x0.2.2.2.2.1, x0.2.2.2.2.2.1, x0.2.2.2.2.2.2), rfl, ((Eq.trans (if_neg c1) (Eq.trans (if_neg c2) (Eq.trans (if_neg c3) (Eq.trans (if_pos c4) (rfl))))).symm), by rw [ht]; exact hP, hD⟩, hS.F ht⟩) hS.2.2 dX6_obey_57
      · have c3 : p1 = (4 : Int32) := c3
        refine lv_aload_n hx hb dX6_obey_28 rfl (lv_at hl 0 rfl) ?_
        refine lv_iconst (v := (2 : Int32)) hx hb dX6_obey_29 (by decide) ?_
        refine va_put (D := D) (ci := 6) (v := .int (2 : Int32)) (ty := .int) (C := RX6) (T := TX6) (N := 7) hx hb hts hinX6 tyX6 tyX6_ok nmX6 hown hQ.1 hP hD hS 0 rfl rfl 0 (by decide) (hts (.fieldLink RX6 9 "HeatPumpPlant$Pump" "mode" "I") (List.mem_of_getElem? (i := 1) rfl)) (fun _ h9 => h9) rfl (by decide +kernel) rfl rfl (Nat.le_of_ble_eq_true rfl) dX6_obey_30 (fun H locs hP hD hS => ?_)
        have hP : va_P D vwCl (wF [gP cI b0 b1 ((2 : Int32), x0.2.1, x0.2.2.1, x0.2.2.2.1, x0.2.2.2.2.1, x0.2.2.2.2.2.1, x0.2.2.2.2.2.2)]) H := hP
        have hD : va_D A (wF [gP cI b0 b1 ((2 : Int32), x0.2.1, x0.2.2.1, x0.2.2.2.1, x0.2.2.2.2.1, x0.2.2.2.2.2.1, x0.2.2.2.2.2.2)]) := hD
        refine lv_aload_n hx hb dX6_obey_33 rfl (lv_at hl 0 rfl) ?_
        refine lv_iconst (v := (0 : Int32)) hx hb dX6_obey_34 (by decide) ?_
        refine va_put (D := D) (ci := 6) (v := .int (0 : Int32)) (ty := .int) (C := RX6) (T := TX6) (N := 7) hx hb hts hinX6 tyX6 tyX6_ok nmX6 hown hQ.1 hP hD hS 0 rfl rfl 3 (by decide) (hts (.fieldLink RX6 25 "HeatPumpPlant$Pump" "defrostMinutes" "I") (List.mem_of_getElem? (i := 3) rfl)) (fun _ h9 => h9) rfl (by decide +kernel) rfl rfl (Nat.le_of_ble_eq_true rfl) dX6_obey_35 (fun H locs hP hD hS => ?_)
        have hP : va_P D vwCl (wF [gP cI b0 b1 ((2 : Int32), x0.2.1, x0.2.2.1, (0 : Int32), x0.2.2.2.2.1, x0.2.2.2.2.2.1, x0.2.2.2.2.2.2)]) H := hP
        have hD : va_D A (wF [gP cI b0 b1 ((2 : Int32), x0.2.1, x0.2.2.1, (0 : Int32), x0.2.2.2.2.1, x0.2.2.2.2.2.1, x0.2.2.2.2.2.2)]) := hD
        refine lv_goto (tgt := 57) hx hb dX6_obey_38 (by decide) ?_
        exact W.vret hx hb hr (fun t ht hW => ⟨⟨((2 : Int32), x0.2.1, x0.2.2.1, (0 : Int32), x0.2.2.2.2.1, x0.2.2.2.2.2.1, x0.2.2.2.2.2.2), rfl, ((Eq.trans (if_neg c1) (Eq.trans (if_neg c2) (Eq.trans (if_pos c3) (rfl)))).symm), by rw [ht]; exact hP, hD⟩, hS.F ht⟩) hS.2.2 dX6_obey_57
    · have c2 : p1 = (3 : Int32) := c2
      refine lv_aload_n hx hb dX6_obey_10 rfl (lv_at hl 0 rfl) ?_
      refine lv_iconst (v := (0 : Int32)) hx hb dX6_obey_11 (by decide) ?_
      refine va_put (D := D) (ci := 6) (v := .int (0 : Int32)) (ty := .int) (C := RX6) (T := TX6) (N := 7) hx hb hts hinX6 tyX6 tyX6_ok nmX6 hown hQ.1 hP hD hS 0 rfl rfl 0 (by decide) (hts (.fieldLink RX6 9 "HeatPumpPlant$Pump" "mode" "I") (List.mem_of_getElem? (i := 1) rfl)) (fun _ h9 => h9) rfl (by decide +kernel) rfl rfl (Nat.le_of_ble_eq_true rfl) dX6_obey_12 (fun H locs hP hD hS => ?_)
      have hP : va_P D vwCl (wF [gP cI b0 b1 ((0 : Int32), x0.2.1, x0.2.2.1, x0.2.2.2.1, x0.2.2.2.2.1, x0.2.2.2.2.2.1, x0.2.2.2.2.2.2)]) H := hP
      have hD : va_D A (wF [gP cI b0 b1 ((0 : Int32), x0.2.1, x0.2.2.1, x0.2.2.2.1, x0.2.2.2.2.1, x0.2.2.2.2.2.1, x0.2.2.2.2.2.2)]) := hD
      refine lv_aload_n hx hb dX6_obey_15 rfl (lv_at hl 0 rfl) ?_
      refine lv_iconst (v := (0 : Int32)) hx hb dX6_obey_16 (by decide) ?_
      refine va_put (D := D) (ci := 6) (v := .int (0 : Int32)) (ty := .int) (C := RX6) (T := TX6) (N := 7) hx hb hts hinX6 tyX6 tyX6_ok nmX6 hown hQ.1 hP hD hS 0 rfl rfl 2 (by decide) (hts (.fieldLink RX6 15 "HeatPumpPlant$Pump" "offMinutes" "I") (List.mem_of_getElem? (i := 2) rfl)) (fun _ h9 => h9) rfl (by decide +kernel) rfl rfl (Nat.le_of_ble_eq_true rfl) dX6_obey_17 (fun H locs hP hD hS => ?_)
      have hP : va_P D vwCl (wF [gP cI b0 b1 ((0 : Int32), x0.2.1, (0 : Int32), x0.2.2.2.1, x0.2.2.2.2.1, x0.2.2.2.2.2.1, x0.2.2.2.2.2.2)]) H := hP
      have hD : va_D A (wF [gP cI b0 b1 ((0 : Int32), x0.2.1, (0 : Int32), x0.2.2.2.1, x0.2.2.2.2.1, x0.2.2.2.2.2.1, x0.2.2.2.2.2.2)]) := hD
      refine lv_goto (tgt := 57) hx hb dX6_obey_20 (by decide) ?_
      exact W.vret hx hb hr (fun t ht hW => ⟨⟨((0 : Int32), x0.2.1, (0 : Int32), x0.2.2.2.1, x0.2.2.2.2.1, x0.2.2.2.2.2.1, x0.2.2.2.2.2.2), rfl, ((Eq.trans (if_neg c1) (Eq.trans (if_pos c2) (rfl))).symm), by rw [ht]; exact hP, hD⟩, hS.F ht⟩) hS.2.2 dX6_obey_57
def K6_noteStart_1 (x0 : SP) (p1 : Int32) (p2 : Int32) (z1 : SS) : SP := (x0.1, x0.2.1, x0.2.2.1, x0.2.2.2.1, x0.2.2.2.2.1, (x0.2.2.2.2.2.1 + (p2 - (F10_elementOr 60 x0.2.2.2.2.2.2 (p1 - p1 / (60 : Int32) * (60 : Int32)) (0 : Int32)))), z1)
def F6_noteStart (x0 : SP) (p1 : Int32) (p2 : Int32) : SP := (K6_noteStart_1 x0 p1 p2 (F10_replace 60 x0.2.2.2.2.2.2 (p1 - p1 / (60 : Int32) * (60 : Int32)) p2))
set_option maxHeartbeats 4000000 in
set_option maxRecDepth 100000 in
theorem m6_noteStart (l : Launch) (D : va_G) (cI cL cP : ClassId) (b0 : Nat) (b1 : Nat) (x0 : SP) (p1 : Int32) (p2 : Int32) (sz : Nat) : Met l yX6_noteStart wsX6_noteStart ({ frames := 1, cells := 0, slots := 0, locals := 22 }) (va_Pc [.ref b0, .int p1, .int p2] (pM D cI cL cP sz (wF [gP cI b0 b1 x0]))) (va_Qv (fun (w : SP) => w = F6_noteStart x0 p1 p2) (qW D (va_A (wF [gP cI b0 b1 x0]) sz) (fun w : SP => (wF [gP cI b0 b1 w]))) (va_A (wF [gP cI b0 b1 x0]) sz)) 0 0 (va_A (wF [gP cI b0 b1 x0]) sz) := by
  refine Met.ofW (cc := cX6_noteStart) (maxL := 4) (ret := none) (by decide) rfl ?_
  intro p e s m args below meth c s₁ B hml hv
  obtain ⟨rfl, hsz, hP, hQ, hD0⟩ := hv
  have hx := B.exec
  have hb := B.bytes
  have hr := B.returns
  have hts := atoms_spec (ws := wsX6_noteStart) B.pre
  have hown : s.vm.findClass RX6 = some m.cls := findClass_of_methodNamed B.named
  have hlocks := B.notSynchronized
  subst hsz
  have hD := hD0.self (sz := s.heap.size)
  generalize hAe : va_A (wF [gP cI b0 b1 x0]) s.heap.size = A at hD ⊢
  have hA : ∀ q : Nat, s.heap.size ≤ q → A q := fun q h => by rw [← hAe]; exact Or.inr h
  have hS : va_S A s.heap s.heap [] := va_S.rf
  have hP : va_P D vwCl (wF [gP cI b0 b1 x0]) s.heap := hP
  have hl := lv_entry ([.ref b0, .int p1, .int p2]) (n := 4) (Nat.le_of_ble_eq_true rfl)
  rw [lg_entry_eq]
  generalize (lg_sl ([.ref b0, .int p1, .int p2]) ++ List.replicate (4 - (lg_sl ([.ref b0, .int p1, .int p2])).length) Slot.unset).toArray = ls at hl ⊢
  have hl : lv_has ls 4 [(0, .ref b0), (1, .int p1), (2, .int p2)] := hl
  have hinX6 : ∀ w ∈ wsX60, w ∈ wsX6_noteStart := fun _ h => List.mem_cons_of_mem _ (List.mem_append_right _ h)
  refine lv_iload_n hx hb dX6_noteStart_0 rfl (lv_at hl 1 rfl) ?_
  refine lv_bipush (v := (60 : Int32)) hx hb dX6_noteStart_1 (by decide) ?_
  refine lv_irem hx hb dX6_noteStart_3 (by decide) ?_
  refine lv_istore_n (lv' := [(3, .int (p1 - p1 / (60 : Int32) * (60 : Int32))), (0, .ref b0), (1, .int p1), (2, .int p2)]) hx hb dX6_noteStart_4 rfl hl (by decide) rfl (fun ls hl => ?_)
  refine lv_aload_n hx hb dX6_noteStart_5 rfl (lv_at hl 1 rfl) ?_
  refine lv_dup hx hb dX6_noteStart_6 rfl ?_
  refine va_get (D := D) (ci := 6) (v := .int x0.2.2.2.2.2.1) (C := RX6) (T := TX6) (N := 7) hx hb hts hinX6 hown hQ.1 hP 0 rfl rfl 5 (by decide) (hts (.fieldLink RX6 31 "HeatPumpPlant$Pump" "recentStarts" "I") (List.mem_of_getElem? (i := 1) rfl)) (fun _ h9 => h9) rfl dX6_noteStart_7 ?_
  refine lv_iload_n hx hb dX6_noteStart_10 rfl (lv_at hl 3 rfl) ?_
  refine lv_aload_n hx hb dX6_noteStart_11 rfl (lv_at hl 1 rfl) ?_
  refine va_get (D := D) (ci := 6) (v := .ref b1) (C := RX6) (T := TX6) (N := 7) hx hb hts hinX6 hown hQ.1 hP 0 rfl rfl 6 (by decide) (hts (.fieldLink RX6 18 "HeatPumpPlant$Pump" "startsByMinute" "[I") (List.mem_of_getElem? (i := 2) rfl)) (fun _ h9 => h9) rfl dX6_noteStart_12 ?_
  refine lv_iload_n hx hb dX6_noteStart_15 rfl (lv_at hl 0 rfl) ?_
  refine lv_iconst (v := (0 : Int32)) hx hb dX6_noteStart_16 (by decide) ?_
  have hPc : va_P D vwCl (wF [gI cI b1 60 x0.2.2.2.2.2.2]) s.heap := hP.sub [1] rfl
  refine c_Ri (va_runSN (As := [.ref b1, .int (p1 - p1 / (60 : Int32) * (60 : Int32)), .int (0 : Int32)]) (rest := [.int p2, .int x0.2.2.2.2.2.1, .ref b0]) ⟨hx, hb, hml, hown, hts⟩ (m10_elementOr l D cI cL cP b1 60 x0.2.2.2.2.2.2 (p1 - p1 / (60 : Int32) * (60 : Int32)) (0 : Int32) (by decide) s.heap) ⟨va_cnB 3 hts gX6_noteStart_X10_elementOr_n67 rfl rfl rfl (hQ.2 (RX6, 67, yX10_elementOr, "HeatPumpPlant") (List.mem_of_getElem? (i := 16) rfl)) (hts (.initialized RX10) (List.mem_of_getElem? (i := 4) rfl)) (by decide +kernel) ⟨Nat.le_of_ble_eq_true rfl, Nat.le_of_ble_eq_true rfl⟩, (hts (.static yX10_elementOr) (List.mem_of_getElem? (i := 3) rfl)), trivial⟩ (preR_S hQ hPc) rfl rfl hl.1 rfl (lv_room (Nat.le_of_ble_eq_true rfl)) dX6_noteStart_17 ⟨Nat.le_of_ble_eq_true rfl, Nat.le_of_ble_eq_true rfl⟩) hS (fun locs hS => ?_)
  refine lv_isub hx hb dX6_noteStart_20 ?_
  refine lv_iadd hx hb dX6_noteStart_21 ?_
  refine va_put (D := D) (ci := 6) (v := .int (x0.2.2.2.2.2.1 + (p2 - (F10_elementOr 60 x0.2.2.2.2.2.2 (p1 - p1 / (60 : Int32) * (60 : Int32)) (0 : Int32))))) (ty := .int) (C := RX6) (T := TX6) (N := 7) hx hb hts hinX6 tyX6 tyX6_ok nmX6 hown hQ.1 hP hD hS 0 rfl rfl 5 (by decide) (hts (.fieldLink RX6 31 "HeatPumpPlant$Pump" "recentStarts" "I") (List.mem_of_getElem? (i := 1) rfl)) (fun _ h9 => h9) rfl (by decide +kernel) rfl rfl (Nat.le_of_ble_eq_true rfl) dX6_noteStart_22 (fun H locs hP hD hS => ?_)
  have hP : va_P D vwCl (wF [gP cI b0 b1 (x0.1, x0.2.1, x0.2.2.1, x0.2.2.2.1, x0.2.2.2.2.1, (x0.2.2.2.2.2.1 + (p2 - (F10_elementOr 60 x0.2.2.2.2.2.2 (p1 - p1 / (60 : Int32) * (60 : Int32)) (0 : Int32)))), x0.2.2.2.2.2.2)]) H := hP
  have hD : va_D A (wF [gP cI b0 b1 (x0.1, x0.2.1, x0.2.2.1, x0.2.2.2.1, x0.2.2.2.2.1, (x0.2.2.2.2.2.1 + (p2 - (F10_elementOr 60 x0.2.2.2.2.2.2 (p1 - p1 / (60 : Int32) * (60 : Int32)) (0 : Int32)))), x0.2.2.2.2.2.2)]) := hD
  refine lv_aload_n hx hb dX6_noteStart_25 rfl (lv_at hl 1 rfl) ?_
  refine va_get (D := D) (ci := 6) (v := .ref b1) (C := RX6) (T := TX6) (N := 7) hx hb hts hinX6 hown hQ.1 hP 0 rfl rfl 6 (by decide) (hts (.fieldLink RX6 18 "HeatPumpPlant$Pump" "startsByMinute" "[I") (List.mem_of_getElem? (i := 2) rfl)) (fun _ h9 => h9) rfl dX6_noteStart_26 ?_
  refine lv_iload_n hx hb dX6_noteStart_29 rfl (lv_at hl 0 rfl) ?_
  refine lv_iload_n hx hb dX6_noteStart_30 rfl (lv_at hl 3 rfl) ?_
  have hP : va_P D vwCl (wF [[(b0, .inr (6, [.int x0.1, .int x0.2.1, .int x0.2.2.1, .int x0.2.2.2.1, .int x0.2.2.2.2.1, .int (x0.2.2.2.2.2.1 + (p2 - (F10_elementOr 60 x0.2.2.2.2.2.2 (p1 - p1 / (60 : Int32) * (60 : Int32)) (0 : Int32)))), .ref b1]))], gI cI b1 60 x0.2.2.2.2.2.2]) H := hP
  have hD : va_D A (wF [[(b0, .inr (6, [.int x0.1, .int x0.2.1, .int x0.2.2.1, .int x0.2.2.2.1, .int x0.2.2.2.2.1, .int (x0.2.2.2.2.2.1 + (p2 - (F10_elementOr 60 x0.2.2.2.2.2.2 (p1 - p1 / (60 : Int32) * (60 : Int32)) (0 : Int32)))), .ref b1]))], gI cI b1 60 x0.2.2.2.2.2.2]) := hD
  have hPc : va_P D vwCl (wF [gI cI b1 60 x0.2.2.2.2.2.2]) H := w_psub hP [1] rfl
  have hDc : va_D A (wF [gI cI b1 60 x0.2.2.2.2.2.2]) := w_gsub hD [1] rfl rfl
  refine c_Mv (F := F10_replace 60 x0.2.2.2.2.2.2 (p1 - p1 / (60 : Int32) * (60 : Int32)) p2) (G1 := (fun w => [gI cI b1 60 w])) (Gr := [[(b0, .inr (6, [.int x0.1, .int x0.2.1, .int x0.2.2.1, .int x0.2.2.2.1, .int x0.2.2.2.2.1, .int (x0.2.2.2.2.2.1 + (p2 - (F10_elementOr 60 x0.2.2.2.2.2.2 (p1 - p1 / (60 : Int32) * (60 : Int32)) (0 : Int32)))), .ref b1]))]]) (Gs' := fun z1 => [[(b0, .inr (6, [.int x0.1, .int x0.2.1, .int x0.2.2.1, .int x0.2.2.2.1, .int x0.2.2.2.2.1, .int (x0.2.2.2.2.2.1 + (p2 - (F10_elementOr 60 x0.2.2.2.2.2.2 (p1 - p1 / (60 : Int32) * (60 : Int32)) (0 : Int32)))), .ref b1]))], gI cI b1 60 z1]) (va_runSN (As := [.ref b1, .int (p1 - p1 / (60 : Int32) * (60 : Int32)), .int p2]) (rest := []) ⟨hx, hb, hml, hown, hts⟩ (m10_replace l D cI cL cP b1 60 x0.2.2.2.2.2.2 (p1 - p1 / (60 : Int32) * (60 : Int32)) p2 (by decide) H.size) ⟨va_cnB 3 hts gX6_noteStart_X10_replace_n71 rfl rfl rfl (hQ.2 (RX6, 71, yX10_replace, "HeatPumpPlant") (List.mem_of_getElem? (i := 17) rfl)) (hts (.initialized RX10) (List.mem_of_getElem? (i := 4) rfl)) (by decide +kernel) ⟨Nat.le_of_ble_eq_true rfl, Nat.le_of_ble_eq_true rfl⟩, (hts (.static yX10_replace) (List.mem_of_getElem? (i := 6) rfl)), trivial⟩ (preM_S hQ hPc hDc) rfl rfl hl.1 rfl (lv_room (Nat.le_of_ble_eq_true rfl)) dX6_noteStart_31 ⟨Nat.le_of_ble_eq_true rfl, Nat.le_of_ble_eq_true rfl⟩) hS hA hP hD [1] [0] [1, 0] rfl rfl rfl rfl rfl (fun _ => rfl) (fun z1 H locs hz1 hP hD hS => ?_)
  have hP : va_P D vwCl (wF [gP cI b0 b1 (x0.1, x0.2.1, x0.2.2.1, x0.2.2.2.1, x0.2.2.2.2.1, (x0.2.2.2.2.2.1 + (p2 - (F10_elementOr 60 x0.2.2.2.2.2.2 (p1 - p1 / (60 : Int32) * (60 : Int32)) (0 : Int32)))), z1)]) H := hP
  have hD : va_D A (wF [gP cI b0 b1 (x0.1, x0.2.1, x0.2.2.1, x0.2.2.2.1, x0.2.2.2.2.1, (x0.2.2.2.2.2.1 + (p2 - (F10_elementOr 60 x0.2.2.2.2.2.2 (p1 - p1 / (60 : Int32) * (60 : Int32)) (0 : Int32)))), z1)]) := hD
  exact W.vret hx hb hr (fun t ht hW => ⟨⟨(x0.1, x0.2.1, x0.2.2.1, x0.2.2.2.1, x0.2.2.2.2.1, (x0.2.2.2.2.2.1 + (p2 - (F10_elementOr 60 x0.2.2.2.2.2.2 (p1 - p1 / (60 : Int32) * (60 : Int32)) (0 : Int32)))), z1), rfl, ((Eq.trans (congrArg (K6_noteStart_1 x0 p1 p2) hz1.symm) (rfl)).symm), by rw [ht]; exact hP, hD⟩, hS.F ht⟩) hS.2.2 dX6_noteStart_34
def F6_countMinute (x0 : SP) : SP := (if x0.1 = (0 : Int32) then (if x0.1 = (2 : Int32) then (x0.1, x0.2.1, (x0.2.2.1 + (1 : Int32)), (x0.2.2.2.1 + (1 : Int32)), x0.2.2.2.2.1, x0.2.2.2.2.2.1, x0.2.2.2.2.2.2) else (x0.1, x0.2.1, (x0.2.2.1 + (1 : Int32)), x0.2.2.2.1, x0.2.2.2.2.1, x0.2.2.2.2.2.1, x0.2.2.2.2.2.2)) else (if x0.1 = (2 : Int32) then (x0.1, (x0.2.1 + (1 : Int32)), x0.2.2.1, (x0.2.2.2.1 + (1 : Int32)), x0.2.2.2.2.1, x0.2.2.2.2.2.1, x0.2.2.2.2.2.2) else (x0.1, (x0.2.1 + (1 : Int32)), x0.2.2.1, x0.2.2.2.1, x0.2.2.2.2.1, x0.2.2.2.2.2.1, x0.2.2.2.2.2.2)))
set_option maxHeartbeats 4000000 in
set_option maxRecDepth 100000 in
theorem m6_countMinute (l : Launch) (D : va_G) (cI cL cP : ClassId) (b0 : Nat) (b1 : Nat) (x0 : SP) (sz : Nat) : Met l yX6_countMinute wsX6_countMinute ({ frames := 0, cells := 0, slots := 0, locals := 0 }) (va_Pc [.ref b0] (pM D cI cL cP sz (wF [gP cI b0 b1 x0]))) (va_Qv (fun (w : SP) => w = F6_countMinute x0) (qW D (va_A (wF [gP cI b0 b1 x0]) sz) (fun w : SP => (wF [gP cI b0 b1 w]))) (va_A (wF [gP cI b0 b1 x0]) sz)) 0 0 (va_A (wF [gP cI b0 b1 x0]) sz) := by
  refine Met.ofW (cc := cX6_countMinute) (maxL := 1) (ret := none) (by decide) rfl ?_
  intro p e s m args below meth c s₁ B hml hv
  obtain ⟨rfl, hsz, hP, hQ, hD0⟩ := hv
  have hx := B.exec
  have hb := B.bytes
  have hr := B.returns
  have hts := atoms_spec (ws := wsX6_countMinute) B.pre
  have hown : s.vm.findClass RX6 = some m.cls := findClass_of_methodNamed B.named
  have hlocks := B.notSynchronized
  subst hsz
  have hD := hD0.self (sz := s.heap.size)
  generalize hAe : va_A (wF [gP cI b0 b1 x0]) s.heap.size = A at hD ⊢
  have hA : ∀ q : Nat, s.heap.size ≤ q → A q := fun q h => by rw [← hAe]; exact Or.inr h
  have hS : va_S A s.heap s.heap [] := va_S.rf
  have hP : va_P D vwCl (wF [gP cI b0 b1 x0]) s.heap := hP
  have hl := lv_entry ([.ref b0]) (n := 1) (Nat.le_of_ble_eq_true rfl)
  rw [lg_entry_eq]
  generalize (lg_sl ([.ref b0]) ++ List.replicate (1 - (lg_sl ([.ref b0])).length) Slot.unset).toArray = ls at hl ⊢
  have hl : lv_has ls 1 [(0, .ref b0)] := hl
  have hinX6 : ∀ w ∈ wsX60, w ∈ wsX6_countMinute := fun _ h => List.mem_cons_of_mem _ (List.mem_append_right _ h)
  refine lv_aload_n hx hb dX6_countMinute_0 rfl (lv_at hl 0 rfl) ?_
  refine va_get (D := D) (ci := 6) (v := .int x0.1) (C := RX6) (T := TX6) (N := 7) hx hb hts hinX6 hown hQ.1 hP 0 rfl rfl 0 (by decide) (hts (.fieldLink RX6 9 "HeatPumpPlant$Pump" "mode" "I") (List.mem_of_getElem? (i := 1) rfl)) (fun _ h9 => h9) rfl dX6_countMinute_1 ?_
  refine lv_if_ne (tgt := 20) hx hb dX6_countMinute_4 (by decide) (fun c1 => ?_) (fun c1 => ?_)
  · have c1 : ¬ (x0.1 = (0 : Int32)) := c1
    refine lv_aload_n hx hb dX6_countMinute_20 rfl (lv_at hl 0 rfl) ?_
    refine lv_dup hx hb dX6_countMinute_21 rfl ?_
    refine va_get (D := D) (ci := 6) (v := .int x0.2.1) (C := RX6) (T := TX6) (N := 7) hx hb hts hinX6 hown hQ.1 hP 0 rfl rfl 1 (by decide) (hts (.fieldLink RX6 22 "HeatPumpPlant$Pump" "onMinutes" "I") (List.mem_of_getElem? (i := 3) rfl)) (fun _ h9 => h9) rfl dX6_countMinute_22 ?_
    refine lv_iconst (v := (1 : Int32)) hx hb dX6_countMinute_25 (by decide) ?_
    refine lv_iadd hx hb dX6_countMinute_26 ?_
    refine va_put (D := D) (ci := 6) (v := .int (x0.2.1 + (1 : Int32))) (ty := .int) (C := RX6) (T := TX6) (N := 7) hx hb hts hinX6 tyX6 tyX6_ok nmX6 hown hQ.1 hP hD hS 0 rfl rfl 1 (by decide) (hts (.fieldLink RX6 22 "HeatPumpPlant$Pump" "onMinutes" "I") (List.mem_of_getElem? (i := 3) rfl)) (fun _ h9 => h9) rfl (by decide +kernel) rfl rfl (Nat.le_of_ble_eq_true rfl) dX6_countMinute_27 (fun H locs hP hD hS => ?_)
    have hP : va_P D vwCl (wF [gP cI b0 b1 (x0.1, (x0.2.1 + (1 : Int32)), x0.2.2.1, x0.2.2.2.1, x0.2.2.2.2.1, x0.2.2.2.2.2.1, x0.2.2.2.2.2.2)]) H := hP
    have hD : va_D A (wF [gP cI b0 b1 (x0.1, (x0.2.1 + (1 : Int32)), x0.2.2.1, x0.2.2.2.1, x0.2.2.2.2.1, x0.2.2.2.2.2.1, x0.2.2.2.2.2.2)]) := hD
    refine lv_aload_n hx hb dX6_countMinute_30 rfl (lv_at hl 0 rfl) ?_
    refine va_get (D := D) (ci := 6) (v := .int x0.1) (C := RX6) (T := TX6) (N := 7) hx hb hts hinX6 hown hQ.1 hP 0 rfl rfl 0 (by decide) (hts (.fieldLink RX6 9 "HeatPumpPlant$Pump" "mode" "I") (List.mem_of_getElem? (i := 1) rfl)) (fun _ h9 => h9) rfl dX6_countMinute_31 ?_
    refine lv_iconst (v := (2 : Int32)) hx hb dX6_countMinute_34 (by decide) ?_
    refine lv_icmp_ne (tgt := 48) hx hb dX6_countMinute_35 (by decide) (fun c2 => ?_) (fun c2 => ?_)
    · have c2 : ¬ (x0.1 = (2 : Int32)) := c2
      exact W.vret hx hb hr (fun t ht hW => ⟨⟨(x0.1, (x0.2.1 + (1 : Int32)), x0.2.2.1, x0.2.2.2.1, x0.2.2.2.2.1, x0.2.2.2.2.2.1, x0.2.2.2.2.2.2), rfl, ((Eq.trans (if_neg c1) (Eq.trans (if_neg c2) (rfl))).symm), by rw [ht]; exact hP, hD⟩, hS.F ht⟩) hS.2.2 dX6_countMinute_48
    · have c2 : x0.1 = (2 : Int32) := c2
      refine lv_aload_n hx hb dX6_countMinute_38 rfl (lv_at hl 0 rfl) ?_
      refine lv_dup hx hb dX6_countMinute_39 rfl ?_
      refine va_get (D := D) (ci := 6) (v := .int x0.2.2.2.1) (C := RX6) (T := TX6) (N := 7) hx hb hts hinX6 hown hQ.1 hP 0 rfl rfl 3 (by decide) (hts (.fieldLink RX6 25 "HeatPumpPlant$Pump" "defrostMinutes" "I") (List.mem_of_getElem? (i := 4) rfl)) (fun _ h9 => h9) rfl dX6_countMinute_40 ?_
      refine lv_iconst (v := (1 : Int32)) hx hb dX6_countMinute_43 (by decide) ?_
      refine lv_iadd hx hb dX6_countMinute_44 ?_
      refine va_put (D := D) (ci := 6) (v := .int (x0.2.2.2.1 + (1 : Int32))) (ty := .int) (C := RX6) (T := TX6) (N := 7) hx hb hts hinX6 tyX6 tyX6_ok nmX6 hown hQ.1 hP hD hS 0 rfl rfl 3 (by decide) (hts (.fieldLink RX6 25 "HeatPumpPlant$Pump" "defrostMinutes" "I") (List.mem_of_getElem? (i := 4) rfl)) (fun _ h9 => h9) rfl (by decide +kernel) rfl rfl (Nat.le_of_ble_eq_true rfl) dX6_countMinute_45 (fun H locs hP hD hS => ?_)
      have hP : va_P D vwCl (wF [gP cI b0 b1 (x0.1, (x0.2.1 + (1 : Int32)), x0.2.2.1, (x0.2.2.2.1 + (1 : Int32)), x0.2.2.2.2.1, x0.2.2.2.2.2.1, x0.2.2.2.2.2.2)]) H := hP
      have hD : va_D A (wF [gP cI b0 b1 (x0.1, (x0.2.1 + (1 : Int32)), x0.2.2.1, (x0.2.2.2.1 + (1 : Int32)), x0.2.2.2.2.1, x0.2.2.2.2.2.1, x0.2.2.2.2.2.2)]) := hD
      exact W.vret hx hb hr (fun t ht hW => ⟨⟨(x0.1, (x0.2.1 + (1 : Int32)), x0.2.2.1, (x0.2.2.2.1 + (1 : Int32)), x0.2.2.2.2.1, x0.2.2.2.2.2.1, x0.2.2.2.2.2.2), rfl, ((Eq.trans (if_neg c1) (Eq.trans (if_pos c2) (rfl))).symm), by rw [ht]; exact hP, hD⟩, hS.F ht⟩) hS.2.2 dX6_countMinute_48
  · have c1 : x0.1 = (0 : Int32) := c1
    refine lv_aload_n hx hb dX6_countMinute_7 rfl (lv_at hl 0 rfl) ?_
    refine lv_dup hx hb dX6_countMinute_8 rfl ?_
    refine va_get (D := D) (ci := 6) (v := .int x0.2.2.1) (C := RX6) (T := TX6) (N := 7) hx hb hts hinX6 hown hQ.1 hP 0 rfl rfl 2 (by decide) (hts (.fieldLink RX6 15 "HeatPumpPlant$Pump" "offMinutes" "I") (List.mem_of_getElem? (i := 2) rfl)) (fun _ h9 => h9) rfl dX6_countMinute_9 ?_
    refine lv_iconst (v := (1 : Int32)) hx hb dX6_countMinute_12 (by decide) ?_
    refine lv_iadd hx hb dX6_countMinute_13 ?_
    refine va_put (D := D) (ci := 6) (v := .int (x0.2.2.1 + (1 : Int32))) (ty := .int) (C := RX6) (T := TX6) (N := 7) hx hb hts hinX6 tyX6 tyX6_ok nmX6 hown hQ.1 hP hD hS 0 rfl rfl 2 (by decide) (hts (.fieldLink RX6 15 "HeatPumpPlant$Pump" "offMinutes" "I") (List.mem_of_getElem? (i := 2) rfl)) (fun _ h9 => h9) rfl (by decide +kernel) rfl rfl (Nat.le_of_ble_eq_true rfl) dX6_countMinute_14 (fun H locs hP hD hS => ?_)
    have hP : va_P D vwCl (wF [gP cI b0 b1 (x0.1, x0.2.1, (x0.2.2.1 + (1 : Int32)), x0.2.2.2.1, x0.2.2.2.2.1, x0.2.2.2.2.2.1, x0.2.2.2.2.2.2)]) H := hP
    have hD : va_D A (wF [gP cI b0 b1 (x0.1, x0.2.1, (x0.2.2.1 + (1 : Int32)), x0.2.2.2.1, x0.2.2.2.2.1, x0.2.2.2.2.2.1, x0.2.2.2.2.2.2)]) := hD
    refine lv_goto (tgt := 30) hx hb dX6_countMinute_17 (by decide) ?_
    refine lv_aload_n hx hb dX6_countMinute_30 rfl (lv_at hl 0 rfl) ?_
    refine va_get (D := D) (ci := 6) (v := .int x0.1) (C := RX6) (T := TX6) (N := 7) hx hb hts hinX6 hown hQ.1 hP 0 rfl rfl 0 (by decide) (hts (.fieldLink RX6 9 "HeatPumpPlant$Pump" "mode" "I") (List.mem_of_getElem? (i := 1) rfl)) (fun _ h9 => h9) rfl dX6_countMinute_31 ?_
    refine lv_iconst (v := (2 : Int32)) hx hb dX6_countMinute_34 (by decide) ?_
    refine lv_icmp_ne (tgt := 48) hx hb dX6_countMinute_35 (by decide) (fun c3 => ?_) (fun c3 => ?_)
    · have c3 : ¬ (x0.1 = (2 : Int32)) := c3
      exact W.vret hx hb hr (fun t ht hW => ⟨⟨(x0.1, x0.2.1, (x0.2.2.1 + (1 : Int32)), x0.2.2.2.1, x0.2.2.2.2.1, x0.2.2.2.2.2.1, x0.2.2.2.2.2.2), rfl, ((Eq.trans (if_pos c1) (Eq.trans (if_neg c3) (rfl))).symm), by rw [ht]; exact hP, hD⟩, hS.F ht⟩) hS.2.2 dX6_countMinute_48
    · have c3 : x0.1 = (2 : Int32) := c3
      refine lv_aload_n hx hb dX6_countMinute_38 rfl (lv_at hl 0 rfl) ?_
      refine lv_dup hx hb dX6_countMinute_39 rfl ?_
      refine va_get (D := D) (ci := 6) (v := .int x0.2.2.2.1) (C := RX6) (T := TX6) (N := 7) hx hb hts hinX6 hown hQ.1 hP 0 rfl rfl 3 (by decide) (hts (.fieldLink RX6 25 "HeatPumpPlant$Pump" "defrostMinutes" "I") (List.mem_of_getElem? (i := 4) rfl)) (fun _ h9 => h9) rfl dX6_countMinute_40 ?_
      refine lv_iconst (v := (1 : Int32)) hx hb dX6_countMinute_43 (by decide) ?_
      refine lv_iadd hx hb dX6_countMinute_44 ?_
      refine va_put (D := D) (ci := 6) (v := .int (x0.2.2.2.1 + (1 : Int32))) (ty := .int) (C := RX6) (T := TX6) (N := 7) hx hb hts hinX6 tyX6 tyX6_ok nmX6 hown hQ.1 hP hD hS 0 rfl rfl 3 (by decide) (hts (.fieldLink RX6 25 "HeatPumpPlant$Pump" "defrostMinutes" "I") (List.mem_of_getElem? (i := 4) rfl)) (fun _ h9 => h9) rfl (by decide +kernel) rfl rfl (Nat.le_of_ble_eq_true rfl) dX6_countMinute_45 (fun H locs hP hD hS => ?_)
      have hP : va_P D vwCl (wF [gP cI b0 b1 (x0.1, x0.2.1, (x0.2.2.1 + (1 : Int32)), (x0.2.2.2.1 + (1 : Int32)), x0.2.2.2.2.1, x0.2.2.2.2.2.1, x0.2.2.2.2.2.2)]) H := hP
      have hD : va_D A (wF [gP cI b0 b1 (x0.1, x0.2.1, (x0.2.2.1 + (1 : Int32)), (x0.2.2.2.1 + (1 : Int32)), x0.2.2.2.2.1, x0.2.2.2.2.2.1, x0.2.2.2.2.2.2)]) := hD
      exact W.vret hx hb hr (fun t ht hW => ⟨⟨(x0.1, x0.2.1, (x0.2.2.1 + (1 : Int32)), (x0.2.2.2.1 + (1 : Int32)), x0.2.2.2.2.1, x0.2.2.2.2.2.1, x0.2.2.2.2.2.2), rfl, ((Eq.trans (if_pos c1) (Eq.trans (if_pos c3) (rfl))).symm), by rw [ht]; exact hP, hD⟩, hS.F ht⟩) hS.2.2 dX6_countMinute_48
def F6_decideWhileOn (x0 : SP) (x1 : SS) (p2 : Bool) (p3 : Bool) : Int32 := (if p2 = true then (1 : Int32) else (if (F7_valueOf x1 (0 : Int32)) ≤ x0.2.1 then (if p3 = true then (3 : Int32) else (if x0.2.2.2.2.1 < (F7_valueOf x1 (10 : Int32)) then (5 : Int32) else (4 : Int32))) else (2 : Int32)))
set_option maxHeartbeats 4000000 in
set_option maxRecDepth 100000 in
theorem m6_decideWhileOn (l : Launch) (D : va_G) (cI cL cP : ClassId) (b0 : Nat) (b1 : Nat) (b2 : Nat) (b3 : Nat) (x0 : SP) (x1 : SS) (p2 : Bool) (p3 : Bool) (H0 : Heap) : Met l yX6_decideWhileOn wsX6_decideWhileOn ({ frames := 2, cells := 0, slots := 0, locals := 43 }) (va_Pc [.ref b0, .ref b2, .int (bI p2), .int (bI p3)] (pR D cI cL cP H0 (wF [gP cI b0 b1 x0, gS cI b2 b3 x1]))) (va_Qi (fun (r : Int32) (_ : Unit) => r = F6_decideWhileOn x0 x1 p2 p3) (qE H0) nF) 0 0 nF := by
  refine Met.ofW (cc := cX6_decideWhileOn) (maxL := 4) (ret := (some .int)) (by decide) rfl ?_
  intro p e s m args below meth c s₁ B hml hv
  obtain ⟨rfl, rfl, hP, hQ⟩ := hv
  have hx := B.exec
  have hb := B.bytes
  have hr := B.returns
  have hts := atoms_spec (ws := wsX6_decideWhileOn) B.pre
  have hown : s.vm.findClass RX6 = some m.cls := findClass_of_methodNamed B.named
  have hlocks := B.notSynchronized
  have hS : va_S nF s.heap s.heap [] := va_S.rf
  have hl := lv_entry ([.ref b0, .ref b2, .int (bI p2), .int (bI p3)]) (n := 4) (Nat.le_of_ble_eq_true rfl)
  rw [lg_entry_eq]
  generalize (lg_sl ([.ref b0, .ref b2, .int (bI p2), .int (bI p3)]) ++ List.replicate (4 - (lg_sl ([.ref b0, .ref b2, .int (bI p2), .int (bI p3)])).length) Slot.unset).toArray = ls at hl ⊢
  have hl : lv_has ls 4 [(0, .ref b0), (1, .ref b2), (2, .int (bI p2)), (3, .int (bI p3))] := hl
  have hinX6 : ∀ w ∈ wsX60, w ∈ wsX6_decideWhileOn := fun _ h => List.mem_cons_of_mem _ (List.mem_append_left _ (List.mem_append_right _ h))
  have hinX7 : ∀ w ∈ wsX70, w ∈ wsX6_decideWhileOn := fun _ h => List.mem_cons_of_mem _ (List.mem_append_right _ h)
  refine lv_iload_n hx hb dX6_decideWhileOn_0 rfl (lv_at hl 2 rfl) ?_
  refine lv_if_eq (tgt := 6) hx hb dX6_decideWhileOn_1 (by decide) (fun c1 => ?_) (fun c1 => ?_)
  · have c1 : ¬ (p2 = true) := bI_0.mp c1
    refine lv_aload_n hx hb dX6_decideWhileOn_6 rfl (lv_at hl 0 rfl) ?_
    refine va_get (D := D) (ci := 6) (v := .int x0.2.1) (C := RX6) (T := TX6) (N := 7) hx hb hts hinX6 hown hQ.1 hP 0 rfl rfl 1 (by decide) (hts (.fieldLink RX6 22 "HeatPumpPlant$Pump" "onMinutes" "I") (List.mem_of_getElem? (i := 1) rfl)) (fun _ h9 => h9) rfl dX6_decideWhileOn_7 ?_
    refine lv_aload_n hx hb dX6_decideWhileOn_10 rfl (lv_at hl 1 rfl) ?_
    refine lv_iconst (v := (0 : Int32)) hx hb dX6_decideWhileOn_11 (by decide) ?_
    have hPc : va_P D vwCl (wF [gS cI b2 b3 x1]) s.heap := hP.sub [2, 3] rfl
    refine c_Ri (va_runV (As := [.int (0 : Int32)]) (rest := [.int x0.2.1]) ⟨hx, hb, hml, hown, hts⟩ (m7_valueOf l D cI cL cP b2 b3 x1 (0 : Int32) s.heap) (cwV 1 hts gX6_decideWhileOn_X7_valueOf rfl rfl rfl (by decide +kernel) ⟨Nat.le_of_ble_eq_true rfl, Nat.le_of_ble_eq_true rfl⟩) (preR_V (q := (RX7, TX7, 1)) (q0 := 0) hQ hPc rfl rfl) rfl rfl hl.1 rfl (lv_room (Nat.le_of_ble_eq_true rfl)) dX6_decideWhileOn_12 ⟨Nat.le_of_ble_eq_true rfl, Nat.le_of_ble_eq_true rfl⟩) hS (fun locs hS => ?_)
    refine lv_icmp_ge (tgt := 20) hx hb dX6_decideWhileOn_15 (by decide) (fun c2 => ?_) (fun c2 => ?_)
    · have c2 : (F7_valueOf x1 (0 : Int32)) ≤ x0.2.1 := c2
      refine lv_iload_n hx hb dX6_decideWhileOn_20 rfl (lv_at hl 3 rfl) ?_
      refine lv_if_eq (tgt := 26) hx hb dX6_decideWhileOn_21 (by decide) (fun c3 => ?_) (fun c3 => ?_)
      · have c3 : ¬ (p3 = true) := bI_0.mp c3
        refine lv_aload_n hx hb dX6_decideWhileOn_26 rfl (lv_at hl 0 rfl) ?_
        refine va_get (D := D) (ci := 6) (v := .int x0.2.2.2.2.1) (C := RX6) (T := TX6) (N := 7) hx hb hts hinX6 hown hQ.1 hP 0 rfl rfl 4 (by decide) (hts (.fieldLink RX6 28 "HeatPumpPlant$Pump" "frost" "I") (List.mem_of_getElem? (i := 2) rfl)) (fun _ h9 => h9) rfl dX6_decideWhileOn_27 ?_
        refine lv_aload_n hx hb dX6_decideWhileOn_30 rfl (lv_at hl 1 rfl) ?_
        refine lv_bipush (v := (10 : Int32)) hx hb dX6_decideWhileOn_31 (by decide) ?_
        have hPc : va_P D vwCl (wF [gS cI b2 b3 x1]) s.heap := hP.sub [2, 3] rfl
        refine c_Ri (va_runV (As := [.int (10 : Int32)]) (rest := [.int x0.2.2.2.2.1]) ⟨hx, hb, hml, hown, hts⟩ (m7_valueOf l D cI cL cP b2 b3 x1 (10 : Int32) s.heap) (cwV 1 hts gX6_decideWhileOn_X7_valueOf rfl rfl rfl (by decide +kernel) ⟨Nat.le_of_ble_eq_true rfl, Nat.le_of_ble_eq_true rfl⟩) (preR_V (q := (RX7, TX7, 1)) (q0 := 0) hQ hPc rfl rfl) rfl rfl hl.1 rfl (lv_room (Nat.le_of_ble_eq_true rfl)) dX6_decideWhileOn_33 ⟨Nat.le_of_ble_eq_true rfl, Nat.le_of_ble_eq_true rfl⟩) hS (fun locs hS => ?_)
        refine lv_icmp_lt (tgt := 43) hx hb dX6_decideWhileOn_36 (by decide) (fun c4 => ?_) (fun c4 => ?_)
        · have c4 : x0.2.2.2.2.1 < (F7_valueOf x1 (10 : Int32)) := c4
          refine lv_iconst (v := (5 : Int32)) hx hb dX6_decideWhileOn_43 (by decide) ?_
          exact W.iret (v := (5 : Int32)) hx hb hr (fun t ht hW => ⟨⟨(5 : Int32), (), rfl, ((Eq.trans (if_neg c1) (Eq.trans (if_pos c2) (Eq.trans (if_neg c3) (Eq.trans (if_pos c4) (rfl))))).symm), ht⟩, hS.F ht⟩) hS.2.2 dX6_decideWhileOn_44
        · have c4 : ¬ (x0.2.2.2.2.1 < (F7_valueOf x1 (10 : Int32))) := c4
          refine lv_iconst (v := (4 : Int32)) hx hb dX6_decideWhileOn_39 (by decide) ?_
          refine lv_goto (tgt := 44) hx hb dX6_decideWhileOn_40 (by decide) ?_
          exact W.iret (v := (4 : Int32)) hx hb hr (fun t ht hW => ⟨⟨(4 : Int32), (), rfl, ((Eq.trans (if_neg c1) (Eq.trans (if_pos c2) (Eq.trans (if_neg c3) (Eq.trans (if_neg c4) (rfl))))).symm), ht⟩, hS.F ht⟩) hS.2.2 dX6_decideWhileOn_44
      · have c3 : p3 = true := bI_1.mp c3
        refine lv_iconst (v := (3 : Int32)) hx hb dX6_decideWhileOn_24 (by decide) ?_
        exact W.iret (v := (3 : Int32)) hx hb hr (fun t ht hW => ⟨⟨(3 : Int32), (), rfl, ((Eq.trans (if_neg c1) (Eq.trans (if_pos c2) (Eq.trans (if_pos c3) (rfl)))).symm), ht⟩, hS.F ht⟩) hS.2.2 dX6_decideWhileOn_25
    · have c2 : ¬ ((F7_valueOf x1 (0 : Int32)) ≤ x0.2.1) := c2
      refine lv_iconst (v := (2 : Int32)) hx hb dX6_decideWhileOn_18 (by decide) ?_
      exact W.iret (v := (2 : Int32)) hx hb hr (fun t ht hW => ⟨⟨(2 : Int32), (), rfl, ((Eq.trans (if_neg c1) (Eq.trans (if_neg c2) (rfl))).symm), ht⟩, hS.F ht⟩) hS.2.2 dX6_decideWhileOn_19
  · have c1 : p2 = true := bI_1.mp c1
    refine lv_iconst (v := (1 : Int32)) hx hb dX6_decideWhileOn_4 (by decide) ?_
    exact W.iret (v := (1 : Int32)) hx hb hr (fun t ht hW => ⟨⟨(1 : Int32), (), rfl, ((Eq.trans (if_pos c1) (rfl)).symm), ht⟩, hS.F ht⟩) hS.2.2 dX6_decideWhileOn_5
def F6_decideWhileNeeded (x0 : SP) (x1 : SS) (p2 : Bool) (p3 : Bool) : Int32 := (if p2 = true then (7 : Int32) else (if (F7_valueOf x1 (1 : Int32)) ≤ x0.2.2.1 then (if x0.2.2.2.2.2.1 < (F7_valueOf x1 (2 : Int32)) then (if p3 = true then (10 : Int32) else (11 : Int32)) else (9 : Int32)) else (8 : Int32)))
set_option maxHeartbeats 4000000 in
set_option maxRecDepth 100000 in
theorem m6_decideWhileNeeded (l : Launch) (D : va_G) (cI cL cP : ClassId) (b0 : Nat) (b1 : Nat) (b2 : Nat) (b3 : Nat) (x0 : SP) (x1 : SS) (p2 : Bool) (p3 : Bool) (H0 : Heap) : Met l yX6_decideWhileNeeded wsX6_decideWhileNeeded ({ frames := 2, cells := 0, slots := 0, locals := 43 }) (va_Pc [.ref b0, .ref b2, .int (bI p2), .int (bI p3)] (pR D cI cL cP H0 (wF [gP cI b0 b1 x0, gS cI b2 b3 x1]))) (va_Qi (fun (r : Int32) (_ : Unit) => r = F6_decideWhileNeeded x0 x1 p2 p3) (qE H0) nF) 0 0 nF := by
  refine Met.ofW (cc := cX6_decideWhileNeeded) (maxL := 4) (ret := (some .int)) (by decide) rfl ?_
  intro p e s m args below meth c s₁ B hml hv
  obtain ⟨rfl, rfl, hP, hQ⟩ := hv
  have hx := B.exec
  have hb := B.bytes
  have hr := B.returns
  have hts := atoms_spec (ws := wsX6_decideWhileNeeded) B.pre
  have hown : s.vm.findClass RX6 = some m.cls := findClass_of_methodNamed B.named
  have hlocks := B.notSynchronized
  have hS : va_S nF s.heap s.heap [] := va_S.rf
  have hl := lv_entry ([.ref b0, .ref b2, .int (bI p2), .int (bI p3)]) (n := 4) (Nat.le_of_ble_eq_true rfl)
  rw [lg_entry_eq]
  generalize (lg_sl ([.ref b0, .ref b2, .int (bI p2), .int (bI p3)]) ++ List.replicate (4 - (lg_sl ([.ref b0, .ref b2, .int (bI p2), .int (bI p3)])).length) Slot.unset).toArray = ls at hl ⊢
  have hl : lv_has ls 4 [(0, .ref b0), (1, .ref b2), (2, .int (bI p2)), (3, .int (bI p3))] := hl
  have hinX6 : ∀ w ∈ wsX60, w ∈ wsX6_decideWhileNeeded := fun _ h => List.mem_cons_of_mem _ (List.mem_append_left _ (List.mem_append_right _ h))
  have hinX7 : ∀ w ∈ wsX70, w ∈ wsX6_decideWhileNeeded := fun _ h => List.mem_cons_of_mem _ (List.mem_append_right _ h)
  refine lv_iload_n hx hb dX6_decideWhileNeeded_0 rfl (lv_at hl 2 rfl) ?_
  refine lv_if_eq (tgt := 7) hx hb dX6_decideWhileNeeded_1 (by decide) (fun c1 => ?_) (fun c1 => ?_)
  · have c1 : ¬ (p2 = true) := bI_0.mp c1
    refine lv_aload_n hx hb dX6_decideWhileNeeded_7 rfl (lv_at hl 0 rfl) ?_
    refine va_get (D := D) (ci := 6) (v := .int x0.2.2.1) (C := RX6) (T := TX6) (N := 7) hx hb hts hinX6 hown hQ.1 hP 0 rfl rfl 2 (by decide) (hts (.fieldLink RX6 15 "HeatPumpPlant$Pump" "offMinutes" "I") (List.mem_of_getElem? (i := 1) rfl)) (fun _ h9 => h9) rfl dX6_decideWhileNeeded_8 ?_
    refine lv_aload_n hx hb dX6_decideWhileNeeded_11 rfl (lv_at hl 1 rfl) ?_
    refine lv_iconst (v := (1 : Int32)) hx hb dX6_decideWhileNeeded_12 (by decide) ?_
    have hPc : va_P D vwCl (wF [gS cI b2 b3 x1]) s.heap := hP.sub [2, 3] rfl
    refine c_Ri (va_runV (As := [.int (1 : Int32)]) (rest := [.int x0.2.2.1]) ⟨hx, hb, hml, hown, hts⟩ (m7_valueOf l D cI cL cP b2 b3 x1 (1 : Int32) s.heap) (cwV 1 hts gX6_decideWhileNeeded_X7_valueOf rfl rfl rfl (by decide +kernel) ⟨Nat.le_of_ble_eq_true rfl, Nat.le_of_ble_eq_true rfl⟩) (preR_V (q := (RX7, TX7, 1)) (q0 := 0) hQ hPc rfl rfl) rfl rfl hl.1 rfl (lv_room (Nat.le_of_ble_eq_true rfl)) dX6_decideWhileNeeded_13 ⟨Nat.le_of_ble_eq_true rfl, Nat.le_of_ble_eq_true rfl⟩) hS (fun locs hS => ?_)
    refine lv_icmp_ge (tgt := 22) hx hb dX6_decideWhileNeeded_16 (by decide) (fun c2 => ?_) (fun c2 => ?_)
    · have c2 : (F7_valueOf x1 (1 : Int32)) ≤ x0.2.2.1 := c2
      refine lv_aload_n hx hb dX6_decideWhileNeeded_22 rfl (lv_at hl 0 rfl) ?_
      refine va_get (D := D) (ci := 6) (v := .int x0.2.2.2.2.2.1) (C := RX6) (T := TX6) (N := 7) hx hb hts hinX6 hown hQ.1 hP 0 rfl rfl 5 (by decide) (hts (.fieldLink RX6 31 "HeatPumpPlant$Pump" "recentStarts" "I") (List.mem_of_getElem? (i := 2) rfl)) (fun _ h9 => h9) rfl dX6_decideWhileNeeded_23 ?_
      refine lv_aload_n hx hb dX6_decideWhileNeeded_26 rfl (lv_at hl 1 rfl) ?_
      refine lv_iconst (v := (2 : Int32)) hx hb dX6_decideWhileNeeded_27 (by decide) ?_
      have hPc : va_P D vwCl (wF [gS cI b2 b3 x1]) s.heap := hP.sub [2, 3] rfl
      refine c_Ri (va_runV (As := [.int (2 : Int32)]) (rest := [.int x0.2.2.2.2.2.1]) ⟨hx, hb, hml, hown, hts⟩ (m7_valueOf l D cI cL cP b2 b3 x1 (2 : Int32) s.heap) (cwV 1 hts gX6_decideWhileNeeded_X7_valueOf rfl rfl rfl (by decide +kernel) ⟨Nat.le_of_ble_eq_true rfl, Nat.le_of_ble_eq_true rfl⟩) (preR_V (q := (RX7, TX7, 1)) (q0 := 0) hQ hPc rfl rfl) rfl rfl hl.1 rfl (lv_room (Nat.le_of_ble_eq_true rfl)) dX6_decideWhileNeeded_28 ⟨Nat.le_of_ble_eq_true rfl, Nat.le_of_ble_eq_true rfl⟩) hS (fun locs hS => ?_)
      refine lv_icmp_lt (tgt := 37) hx hb dX6_decideWhileNeeded_31 (by decide) (fun c3 => ?_) (fun c3 => ?_)
      · have c3 : x0.2.2.2.2.2.1 < (F7_valueOf x1 (2 : Int32)) := c3
        refine lv_iload_n hx hb dX6_decideWhileNeeded_37 rfl (lv_at hl 3 rfl) ?_
        refine lv_if_eq (tgt := 46) hx hb dX6_decideWhileNeeded_38 (by decide) (fun c4 => ?_) (fun c4 => ?_)
        · have c4 : ¬ (p3 = true) := bI_0.mp c4
          refine lv_bipush (v := (11 : Int32)) hx hb dX6_decideWhileNeeded_46 (by decide) ?_
          exact W.iret (v := (11 : Int32)) hx hb hr (fun t ht hW => ⟨⟨(11 : Int32), (), rfl, ((Eq.trans (if_neg c1) (Eq.trans (if_pos c2) (Eq.trans (if_pos c3) (Eq.trans (if_neg c4) (rfl))))).symm), ht⟩, hS.F ht⟩) hS.2.2 dX6_decideWhileNeeded_48
        · have c4 : p3 = true := bI_1.mp c4
          refine lv_bipush (v := (10 : Int32)) hx hb dX6_decideWhileNeeded_41 (by decide) ?_
          refine lv_goto (tgt := 48) hx hb dX6_decideWhileNeeded_43 (by decide) ?_
          exact W.iret (v := (10 : Int32)) hx hb hr (fun t ht hW => ⟨⟨(10 : Int32), (), rfl, ((Eq.trans (if_neg c1) (Eq.trans (if_pos c2) (Eq.trans (if_pos c3) (Eq.trans (if_pos c4) (rfl))))).symm), ht⟩, hS.F ht⟩) hS.2.2 dX6_decideWhileNeeded_48
      · have c3 : ¬ (x0.2.2.2.2.2.1 < (F7_valueOf x1 (2 : Int32))) := c3
        refine lv_bipush (v := (9 : Int32)) hx hb dX6_decideWhileNeeded_34 (by decide) ?_
        exact W.iret (v := (9 : Int32)) hx hb hr (fun t ht hW => ⟨⟨(9 : Int32), (), rfl, ((Eq.trans (if_neg c1) (Eq.trans (if_pos c2) (Eq.trans (if_neg c3) (rfl)))).symm), ht⟩, hS.F ht⟩) hS.2.2 dX6_decideWhileNeeded_36
    · have c2 : ¬ ((F7_valueOf x1 (1 : Int32)) ≤ x0.2.2.1) := c2
      refine lv_bipush (v := (8 : Int32)) hx hb dX6_decideWhileNeeded_19 (by decide) ?_
      exact W.iret (v := (8 : Int32)) hx hb hr (fun t ht hW => ⟨⟨(8 : Int32), (), rfl, ((Eq.trans (if_neg c1) (Eq.trans (if_neg c2) (rfl))).symm), ht⟩, hS.F ht⟩) hS.2.2 dX6_decideWhileNeeded_21
  · have c1 : p2 = true := bI_1.mp c1
    refine lv_bipush (v := (7 : Int32)) hx hb dX6_decideWhileNeeded_4 (by decide) ?_
    exact W.iret (v := (7 : Int32)) hx hb hr (fun t ht hW => ⟨⟨(7 : Int32), (), rfl, ((Eq.trans (if_pos c1) (rfl)).symm), ht⟩, hS.F ht⟩) hS.2.2 dX6_decideWhileNeeded_6
def F6_decide (x0 : SP) (x1 : SS) (x2 : SB) (x3 : SC) : Int32 := (if x0.1 = (2 : Int32) then (0 : Int32) else (if x0.1 = (1 : Int32) then (F6_decideWhileOn x0 x1 (!decide ((F1_temperatureOf x2 (3 : Int32)) < (F7_valueOf x1 (4 : Int32)).toInt64)) (!decide ((F1_temperatureOf x2 (0 : Int32)) < (x3.2.2.2.2 + (F7_valueOf x1 (3 : Int32))).toInt64))) else (if (F1_temperatureOf x2 (0 : Int32)) < (x3.2.2.2.2 - (F7_valueOf x1 (3 : Int32))).toInt64 then (if x3.2.1 = (2 : Int32) then (if (F1_temperatureOf x2 (0 : Int32)) < (F7_valueOf x1 (6 : Int32)).toInt64 then (F6_decideWhileNeeded x0 x1 (!decide ((F1_temperatureOf x2 (3 : Int32)) < (F7_valueOf x1 (4 : Int32)).toInt64)) false) else (F6_decideWhileNeeded x0 x1 (!decide ((F1_temperatureOf x2 (3 : Int32)) < (F7_valueOf x1 (4 : Int32)).toInt64)) true)) else (F6_decideWhileNeeded x0 x1 (!decide ((F1_temperatureOf x2 (3 : Int32)) < (F7_valueOf x1 (4 : Int32)).toInt64)) false)) else (6 : Int32))))
set_option maxHeartbeats 4000000 in
set_option maxRecDepth 100000 in
theorem m6_decide (l : Launch) (D : va_G) (cI cL cP : ClassId) (b0 : Nat) (b1 : Nat) (b2 : Nat) (b3 : Nat) (b4 : Nat) (b5 : Nat) (b6 : Nat) (x0 : SP) (x1 : SS) (x2 : SB) (x3 : SC) (H0 : Heap) : Met l yX6_decide wsX6_decide ({ frames := 3, cells := 0, slots := 0, locals := 66 }) (va_Pc [.ref b0, .ref b2, .ref b4, .ref b6] (pR D cI cL cP H0 (wF [gP cI b0 b1 x0, gS cI b2 b3 x1, gB cL b4 b5 x2, gC b6 x3]))) (va_Qi (fun (r : Int32) (_ : Unit) => r = F6_decide x0 x1 x2 x3) (qE H0) nF) 0 0 nF := by
  refine Met.ofW (cc := cX6_decide) (maxL := 8) (ret := (some .int)) (by decide) rfl ?_
  intro p e s m args below meth c s₁ B hml hv
  obtain ⟨rfl, rfl, hP, hQ⟩ := hv
  have hx := B.exec
  have hb := B.bytes
  have hr := B.returns
  have hts := atoms_spec (ws := wsX6_decide) B.pre
  have hown : s.vm.findClass RX6 = some m.cls := findClass_of_methodNamed B.named
  have hlocks := B.notSynchronized
  have hS : va_S nF s.heap s.heap [] := va_S.rf
  have hl := lv_entry ([.ref b0, .ref b2, .ref b4, .ref b6]) (n := 8) (Nat.le_of_ble_eq_true rfl)
  rw [lg_entry_eq]
  generalize (lg_sl ([.ref b0, .ref b2, .ref b4, .ref b6]) ++ List.replicate (8 - (lg_sl ([.ref b0, .ref b2, .ref b4, .ref b6])).length) Slot.unset).toArray = ls at hl ⊢
  have hl : lv_has ls 8 [(0, .ref b0), (1, .ref b2), (2, .ref b4), (3, .ref b6)] := hl
  have hinX1 : ∀ w ∈ wsX10, w ∈ wsX6_decide := fun _ h => List.mem_cons_of_mem _ (List.mem_append_left _ (List.mem_append_right _ h))
  have hinX2 : ∀ w ∈ wsX20, w ∈ wsX6_decide := fun _ h => List.mem_cons_of_mem _ (List.mem_append_left _ (List.mem_append_left _ (List.mem_append_right _ h)))
  have hinX6 : ∀ w ∈ wsX60, w ∈ wsX6_decide := fun _ h => List.mem_cons_of_mem _ (List.mem_append_left _ (List.mem_append_left _ (List.mem_append_left _ (List.mem_append_right _ h))))
  have hinX7 : ∀ w ∈ wsX70, w ∈ wsX6_decide := fun _ h => List.mem_cons_of_mem _ (List.mem_append_right _ h)
  refine lv_aload_n hx hb dX6_decide_0 rfl (lv_at hl 0 rfl) ?_
  refine va_get (D := D) (ci := 6) (v := .int x0.1) (C := RX6) (T := TX6) (N := 7) hx hb hts hinX6 hown hQ.1 hP 0 rfl rfl 0 (by decide) (hts (.fieldLink RX6 9 "HeatPumpPlant$Pump" "mode" "I") (List.mem_of_getElem? (i := 1) rfl)) (fun _ h9 => h9) rfl dX6_decide_1 ?_
  refine lv_iconst (v := (2 : Int32)) hx hb dX6_decide_4 (by decide) ?_
  refine lv_icmp_ne (tgt := 10) hx hb dX6_decide_5 (by decide) (fun c1 => ?_) (fun c1 => ?_)
  · have c1 : ¬ (x0.1 = (2 : Int32)) := c1
    refine lv_aload_n hx hb dX6_decide_10 rfl (lv_at hl 2 rfl) ?_
    refine lv_iconst (v := (0 : Int32)) hx hb dX6_decide_11 (by decide) ?_
    have hPc : va_P D vwCl (wF [gB cL b4 b5 x2]) s.heap := hP.sub [4, 5] rfl
    refine c_Rl (va_runV (As := [.int (0 : Int32)]) (rest := []) ⟨hx, hb, hml, hown, hts⟩ (m1_temperatureOf l D cI cL cP b4 b5 x2 (0 : Int32) s.heap) (cwV 1 hts gX6_decide_X1_temperatureOf rfl rfl rfl (by decide +kernel) ⟨Nat.le_of_ble_eq_true rfl, Nat.le_of_ble_eq_true rfl⟩) (preR_V (q := (RX1, TX1, 2)) (q0 := 0) hQ hPc rfl rfl) rfl rfl hl.1 rfl (lv_room (Nat.le_of_ble_eq_true rfl)) dX6_decide_12 ⟨Nat.le_of_ble_eq_true rfl, Nat.le_of_ble_eq_true rfl⟩) hS (fun locs hS => ?_)
    refine lv_lstore (lv' := [(4, .long (F1_temperatureOf x2 (0 : Int32))), (0, .ref b0), (1, .ref b2), (2, .ref b4), (3, .ref b6)]) hx hb dX6_decide_15 hl (by decide) rfl (fun ls hl => ?_)
    refine lv_aload_n hx hb dX6_decide_17 rfl (lv_at hl 3 rfl) ?_
    refine lv_iconst (v := (3 : Int32)) hx hb dX6_decide_18 (by decide) ?_
    have hPc : va_P D vwCl (wF [gB cL b4 b5 x2]) s.heap := hP.sub [4, 5] rfl
    refine c_Rl (va_runV (As := [.int (3 : Int32)]) (rest := []) ⟨hx, hb, hml, hown, hts⟩ (m1_temperatureOf l D cI cL cP b4 b5 x2 (3 : Int32) s.heap) (cwV 1 hts gX6_decide_X1_temperatureOf rfl rfl rfl (by decide +kernel) ⟨Nat.le_of_ble_eq_true rfl, Nat.le_of_ble_eq_true rfl⟩) (preR_V (q := (RX1, TX1, 2)) (q0 := 0) hQ hPc rfl rfl) rfl rfl hl.1 rfl (lv_room (Nat.le_of_ble_eq_true rfl)) dX6_decide_19 ⟨Nat.le_of_ble_eq_true rfl, Nat.le_of_ble_eq_true rfl⟩) hS (fun locs hS => ?_)
    refine lv_aload_n hx hb dX6_decide_22 rfl (lv_at hl 2 rfl) ?_
    refine lv_iconst (v := (4 : Int32)) hx hb dX6_decide_23 (by decide) ?_
    have hPc : va_P D vwCl (wF [gS cI b2 b3 x1]) s.heap := hP.sub [2, 3] rfl
    refine c_Ri (va_runV (As := [.int (4 : Int32)]) (rest := [.long (F1_temperatureOf x2 (3 : Int32))]) ⟨hx, hb, hml, hown, hts⟩ (m7_valueOf l D cI cL cP b2 b3 x1 (4 : Int32) s.heap) (cwV 1 hts gX6_decide_X7_valueOf rfl rfl rfl (by decide +kernel) ⟨Nat.le_of_ble_eq_true rfl, Nat.le_of_ble_eq_true rfl⟩) (preR_V (q := (RX7, TX7, 1)) (q0 := 0) hQ hPc rfl rfl) rfl rfl hl.1 rfl (lv_room (Nat.le_of_ble_eq_true rfl)) dX6_decide_24 ⟨Nat.le_of_ble_eq_true rfl, Nat.le_of_ble_eq_true rfl⟩) hS (fun locs hS => ?_)
    refine lv_i2l hx hb dX6_decide_27 rfl ?_
    refine w_diaN (rest := []) (K := (F1_temperatureOf x2 (3 : Int32)) < (F7_valueOf x1 (4 : Int32)).toInt64) 37 (fun kt kf => ?_) ?_
    · refine w_llt (tgt := 36) hx hb dX6_decide_28 dX6_decide_29 (by decide) (fun c2 => ?_) (fun c2 => ?_)
      · have c2 : (F1_temperatureOf x2 (3 : Int32)) < (F7_valueOf x1 (4 : Int32)).toInt64 := c2
        refine lv_iconst (v := (0 : Int32)) hx hb dX6_decide_36 (by decide) ?_
        exact kt c2
      · have c2 : ¬ ((F1_temperatureOf x2 (3 : Int32)) < (F7_valueOf x1 (4 : Int32)).toInt64) := c2
        refine lv_iconst (v := (1 : Int32)) hx hb dX6_decide_32 (by decide) ?_
        refine lv_goto (tgt := 37) hx hb dX6_decide_33 (by decide) ?_
        exact kf c2
    refine lv_istore (lv' := [(6, .int (bI (!decide ((F1_temperatureOf x2 (3 : Int32)) < (F7_valueOf x1 (4 : Int32)).toInt64)))), (4, .long (F1_temperatureOf x2 (0 : Int32))), (0, .ref b0), (1, .ref b2), (2, .ref b4), (3, .ref b6)]) hx hb dX6_decide_37 hl (by decide) rfl (fun ls hl => ?_)
    refine lv_aload_n hx hb dX6_decide_39 rfl (lv_at hl 2 rfl) ?_
    refine va_get (D := D) (ci := 6) (v := .int x0.1) (C := RX6) (T := TX6) (N := 7) hx hb hts hinX6 hown hQ.1 hP 0 rfl rfl 0 (by decide) (hts (.fieldLink RX6 9 "HeatPumpPlant$Pump" "mode" "I") (List.mem_of_getElem? (i := 1) rfl)) (fun _ h9 => h9) rfl dX6_decide_40 ?_
    refine lv_iconst (v := (1 : Int32)) hx hb dX6_decide_43 (by decide) ?_
    refine lv_icmp_ne (tgt := 77) hx hb dX6_decide_44 (by decide) (fun c3 => ?_) (fun c3 => ?_)
    · have c3 : ¬ (x0.1 = (1 : Int32)) := c3
      refine lv_lload hx hb dX6_decide_77 (lv_at hl 1 rfl) ?_
      refine lv_aload_n hx hb dX6_decide_79 rfl (lv_at hl 5 rfl) ?_
      refine va_get (D := D) (ci := 2) (v := .int x3.2.2.2.2) (C := RX2) (T := TX2) (N := 5) hx hb hts hinX2 hown hQ.1 hP 6 rfl rfl 4 (by decide) (hts (.fieldLink RX6 50 "HeatPumpPlant$Conditions" "target" "I") (List.mem_of_getElem? (i := 2) rfl)) (fun _ h9 => h9) rfl dX6_decide_80 ?_
      refine lv_aload_n hx hb dX6_decide_83 rfl (lv_at hl 3 rfl) ?_
      refine lv_iconst (v := (3 : Int32)) hx hb dX6_decide_84 (by decide) ?_
      have hPc : va_P D vwCl (wF [gS cI b2 b3 x1]) s.heap := hP.sub [2, 3] rfl
      refine c_Ri (va_runV (As := [.int (3 : Int32)]) (rest := [.int x3.2.2.2.2, .long (F1_temperatureOf x2 (0 : Int32))]) ⟨hx, hb, hml, hown, hts⟩ (m7_valueOf l D cI cL cP b2 b3 x1 (3 : Int32) s.heap) (cwV 1 hts gX6_decide_X7_valueOf rfl rfl rfl (by decide +kernel) ⟨Nat.le_of_ble_eq_true rfl, Nat.le_of_ble_eq_true rfl⟩) (preR_V (q := (RX7, TX7, 1)) (q0 := 0) hQ hPc rfl rfl) rfl rfl hl.1 rfl (lv_room (Nat.le_of_ble_eq_true rfl)) dX6_decide_85 ⟨Nat.le_of_ble_eq_true rfl, Nat.le_of_ble_eq_true rfl⟩) hS (fun locs hS => ?_)
      refine lv_isub hx hb dX6_decide_88 ?_
      refine lv_i2l hx hb dX6_decide_89 rfl ?_
      refine w_llt (tgt := 97) hx hb dX6_decide_90 dX6_decide_91 (by decide) (fun c4 => ?_) (fun c4 => ?_)
      · have c4 : (F1_temperatureOf x2 (0 : Int32)) < (x3.2.2.2.2 - (F7_valueOf x1 (3 : Int32))).toInt64 := c4
        refine lv_aload_n hx hb dX6_decide_97 rfl (lv_at hl 5 rfl) ?_
        refine va_get (D := D) (ci := 2) (v := .int x3.2.1) (C := RX2) (T := TX2) (N := 5) hx hb hts hinX2 hown hQ.1 hP 6 rfl rfl 1 (by decide) (hts (.fieldLink RX6 59 "HeatPumpPlant$Conditions" "tariff" "I") (List.mem_of_getElem? (i := 3) rfl)) (fun _ h9 => h9) rfl dX6_decide_98 ?_
        refine lv_iconst (v := (2 : Int32)) hx hb dX6_decide_101 (by decide) ?_
        refine lv_icmp_ne (tgt := 122) hx hb dX6_decide_102 (by decide) (fun c5 => ?_) (fun c5 => ?_)
        · have c5 : ¬ (x3.2.1 = (2 : Int32)) := c5
          refine lv_iconst (v := (0 : Int32)) hx hb dX6_decide_122 (by decide) ?_
          refine lv_istore (lv' := [(7, .int (0 : Int32)), (6, .int (bI (!decide ((F1_temperatureOf x2 (3 : Int32)) < (F7_valueOf x1 (4 : Int32)).toInt64)))), (4, .long (F1_temperatureOf x2 (0 : Int32))), (0, .ref b0), (1, .ref b2), (2, .ref b4), (3, .ref b6)]) hx hb dX6_decide_123 hl (by decide) rfl (fun ls hl => ?_)
          refine lv_aload_n hx hb dX6_decide_125 rfl (lv_at hl 3 rfl) ?_
          refine lv_aload_n hx hb dX6_decide_126 rfl (lv_at hl 4 rfl) ?_
          refine lv_iload hx hb dX6_decide_127 (lv_at hl 1 rfl) ?_
          refine lv_iload hx hb dX6_decide_129 (lv_at hl 0 rfl) ?_
          have hPc : va_P D vwCl (wF [gP cI b0 b1 x0, gS cI b2 b3 x1]) s.heap := hP.sub [0, 1, 2, 3] rfl
          refine c_Ri (va_runV (As := [.ref b2, .int (bI (!decide ((F1_temperatureOf x2 (3 : Int32)) < (F7_valueOf x1 (4 : Int32)).toInt64))), .int (bI false)]) (rest := []) ⟨hx, hb, hml, hown, hts⟩ (m6_decideWhileNeeded l D cI cL cP b0 b1 b2 b3 x0 x1 (!decide ((F1_temperatureOf x2 (3 : Int32)) < (F7_valueOf x1 (4 : Int32)).toInt64)) false s.heap) (cwV 3 hts gX6_decide_X6_decideWhileNeeded rfl rfl rfl (by decide +kernel) ⟨Nat.le_of_ble_eq_true rfl, Nat.le_of_ble_eq_true rfl⟩) (preR_V (q := (RX6, TX6, 7)) (q0 := 0) hQ hPc rfl rfl) rfl rfl hl.1 rfl (lv_room (Nat.le_of_ble_eq_true rfl)) dX6_decide_131 ⟨Nat.le_of_ble_eq_true rfl, Nat.le_of_ble_eq_true rfl⟩) hS (fun locs hS => ?_)
          exact W.iret (v := (F6_decideWhileNeeded x0 x1 (!decide ((F1_temperatureOf x2 (3 : Int32)) < (F7_valueOf x1 (4 : Int32)).toInt64)) false)) hx hb hr (fun t ht hW => ⟨⟨(F6_decideWhileNeeded x0 x1 (!decide ((F1_temperatureOf x2 (3 : Int32)) < (F7_valueOf x1 (4 : Int32)).toInt64)) false), (), rfl, ((Eq.trans (if_neg c1) (Eq.trans (if_neg c3) (Eq.trans (if_pos c4) (Eq.trans (if_neg c5) (rfl))))).symm), ht⟩, hS.F ht⟩) hS.2.2 dX6_decide_134
        · have c5 : x3.2.1 = (2 : Int32) := c5
          refine lv_lload hx hb dX6_decide_105 (lv_at hl 1 rfl) ?_
          refine lv_aload_n hx hb dX6_decide_107 rfl (lv_at hl 3 rfl) ?_
          refine lv_bipush (v := (6 : Int32)) hx hb dX6_decide_108 (by decide) ?_
          have hPc : va_P D vwCl (wF [gS cI b2 b3 x1]) s.heap := hP.sub [2, 3] rfl
          refine c_Ri (va_runV (As := [.int (6 : Int32)]) (rest := [.long (F1_temperatureOf x2 (0 : Int32))]) ⟨hx, hb, hml, hown, hts⟩ (m7_valueOf l D cI cL cP b2 b3 x1 (6 : Int32) s.heap) (cwV 1 hts gX6_decide_X7_valueOf rfl rfl rfl (by decide +kernel) ⟨Nat.le_of_ble_eq_true rfl, Nat.le_of_ble_eq_true rfl⟩) (preR_V (q := (RX7, TX7, 1)) (q0 := 0) hQ hPc rfl rfl) rfl rfl hl.1 rfl (lv_room (Nat.le_of_ble_eq_true rfl)) dX6_decide_110 ⟨Nat.le_of_ble_eq_true rfl, Nat.le_of_ble_eq_true rfl⟩) hS (fun locs hS => ?_)
          refine lv_i2l hx hb dX6_decide_113 rfl ?_
          refine w_llt (tgt := 122) hx hb dX6_decide_114 dX6_decide_115 (by decide) (fun c6 => ?_) (fun c6 => ?_)
          · have c6 : (F1_temperatureOf x2 (0 : Int32)) < (F7_valueOf x1 (6 : Int32)).toInt64 := c6
            refine lv_iconst (v := (0 : Int32)) hx hb dX6_decide_122 (by decide) ?_
            refine lv_istore (lv' := [(7, .int (0 : Int32)), (6, .int (bI (!decide ((F1_temperatureOf x2 (3 : Int32)) < (F7_valueOf x1 (4 : Int32)).toInt64)))), (4, .long (F1_temperatureOf x2 (0 : Int32))), (0, .ref b0), (1, .ref b2), (2, .ref b4), (3, .ref b6)]) hx hb dX6_decide_123 hl (by decide) rfl (fun ls hl => ?_)
            refine lv_aload_n hx hb dX6_decide_125 rfl (lv_at hl 3 rfl) ?_
            refine lv_aload_n hx hb dX6_decide_126 rfl (lv_at hl 4 rfl) ?_
            refine lv_iload hx hb dX6_decide_127 (lv_at hl 1 rfl) ?_
            refine lv_iload hx hb dX6_decide_129 (lv_at hl 0 rfl) ?_
            have hPc : va_P D vwCl (wF [gP cI b0 b1 x0, gS cI b2 b3 x1]) s.heap := hP.sub [0, 1, 2, 3] rfl
            refine c_Ri (va_runV (As := [.ref b2, .int (bI (!decide ((F1_temperatureOf x2 (3 : Int32)) < (F7_valueOf x1 (4 : Int32)).toInt64))), .int (bI false)]) (rest := []) ⟨hx, hb, hml, hown, hts⟩ (m6_decideWhileNeeded l D cI cL cP b0 b1 b2 b3 x0 x1 (!decide ((F1_temperatureOf x2 (3 : Int32)) < (F7_valueOf x1 (4 : Int32)).toInt64)) false s.heap) (cwV 3 hts gX6_decide_X6_decideWhileNeeded rfl rfl rfl (by decide +kernel) ⟨Nat.le_of_ble_eq_true rfl, Nat.le_of_ble_eq_true rfl⟩) (preR_V (q := (RX6, TX6, 7)) (q0 := 0) hQ hPc rfl rfl) rfl rfl hl.1 rfl (lv_room (Nat.le_of_ble_eq_true rfl)) dX6_decide_131 ⟨Nat.le_of_ble_eq_true rfl, Nat.le_of_ble_eq_true rfl⟩) hS (fun locs hS => ?_)
            exact W.iret (v := (F6_decideWhileNeeded x0 x1 (!decide ((F1_temperatureOf x2 (3 : Int32)) < (F7_valueOf x1 (4 : Int32)).toInt64)) false)) hx hb hr (fun t ht hW => ⟨⟨(F6_decideWhileNeeded x0 x1 (!decide ((F1_temperatureOf x2 (3 : Int32)) < (F7_valueOf x1 (4 : Int32)).toInt64)) false), (), rfl, ((Eq.trans (if_neg c1) (Eq.trans (if_neg c3) (Eq.trans (if_pos c4) (Eq.trans (if_pos c5) (Eq.trans (if_pos c6) (rfl)))))).symm), ht⟩, hS.F ht⟩) hS.2.2 dX6_decide_134
          · have c6 : ¬ ((F1_temperatureOf x2 (0 : Int32)) < (F7_valueOf x1 (6 : Int32)).toInt64) := c6
            refine lv_iconst (v := (1 : Int32)) hx hb dX6_decide_118 (by decide) ?_
            refine lv_goto (tgt := 123) hx hb dX6_decide_119 (by decide) ?_
            refine lv_istore (lv' := [(7, .int (1 : Int32)), (6, .int (bI (!decide ((F1_temperatureOf x2 (3 : Int32)) < (F7_valueOf x1 (4 : Int32)).toInt64)))), (4, .long (F1_temperatureOf x2 (0 : Int32))), (0, .ref b0), (1, .ref b2), (2, .ref b4), (3, .ref b6)]) hx hb dX6_decide_123 hl (by decide) rfl (fun ls hl => ?_)
            refine lv_aload_n hx hb dX6_decide_125 rfl (lv_at hl 3 rfl) ?_
            refine lv_aload_n hx hb dX6_decide_126 rfl (lv_at hl 4 rfl) ?_
            refine lv_iload hx hb dX6_decide_127 (lv_at hl 1 rfl) ?_
            refine lv_iload hx hb dX6_decide_129 (lv_at hl 0 rfl) ?_
            have hPc : va_P D vwCl (wF [gP cI b0 b1 x0, gS cI b2 b3 x1]) s.heap := hP.sub [0, 1, 2, 3] rfl
            refine c_Ri (va_runV (As := [.ref b2, .int (bI (!decide ((F1_temperatureOf x2 (3 : Int32)) < (F7_valueOf x1 (4 : Int32)).toInt64))), .int (bI true)]) (rest := []) ⟨hx, hb, hml, hown, hts⟩ (m6_decideWhileNeeded l D cI cL cP b0 b1 b2 b3 x0 x1 (!decide ((F1_temperatureOf x2 (3 : Int32)) < (F7_valueOf x1 (4 : Int32)).toInt64)) true s.heap) (cwV 3 hts gX6_decide_X6_decideWhileNeeded rfl rfl rfl (by decide +kernel) ⟨Nat.le_of_ble_eq_true rfl, Nat.le_of_ble_eq_true rfl⟩) (preR_V (q := (RX6, TX6, 7)) (q0 := 0) hQ hPc rfl rfl) rfl rfl hl.1 rfl (lv_room (Nat.le_of_ble_eq_true rfl)) dX6_decide_131 ⟨Nat.le_of_ble_eq_true rfl, Nat.le_of_ble_eq_true rfl⟩) hS (fun locs hS => ?_)
            exact W.iret (v := (F6_decideWhileNeeded x0 x1 (!decide ((F1_temperatureOf x2 (3 : Int32)) < (F7_valueOf x1 (4 : Int32)).toInt64)) true)) hx hb hr (fun t ht hW => ⟨⟨(F6_decideWhileNeeded x0 x1 (!decide ((F1_temperatureOf x2 (3 : Int32)) < (F7_valueOf x1 (4 : Int32)).toInt64)) true), (), rfl, ((Eq.trans (if_neg c1) (Eq.trans (if_neg c3) (Eq.trans (if_pos c4) (Eq.trans (if_pos c5) (Eq.trans (if_neg c6) (rfl)))))).symm), ht⟩, hS.F ht⟩) hS.2.2 dX6_decide_134
      · have c4 : ¬ ((F1_temperatureOf x2 (0 : Int32)) < (x3.2.2.2.2 - (F7_valueOf x1 (3 : Int32))).toInt64) := c4
        refine lv_bipush (v := (6 : Int32)) hx hb dX6_decide_94 (by decide) ?_
        exact W.iret (v := (6 : Int32)) hx hb hr (fun t ht hW => ⟨⟨(6 : Int32), (), rfl, ((Eq.trans (if_neg c1) (Eq.trans (if_neg c3) (Eq.trans (if_neg c4) (rfl)))).symm), ht⟩, hS.F ht⟩) hS.2.2 dX6_decide_96
    · have c3 : x0.1 = (1 : Int32) := c3
      refine lv_aload_n hx hb dX6_decide_47 rfl (lv_at hl 2 rfl) ?_
      refine lv_aload_n hx hb dX6_decide_48 rfl (lv_at hl 3 rfl) ?_
      refine lv_iload hx hb dX6_decide_49 (lv_at hl 0 rfl) ?_
      refine lv_lload hx hb dX6_decide_51 (lv_at hl 1 rfl) ?_
      refine lv_aload_n hx hb dX6_decide_53 rfl (lv_at hl 5 rfl) ?_
      refine va_get (D := D) (ci := 2) (v := .int x3.2.2.2.2) (C := RX2) (T := TX2) (N := 5) hx hb hts hinX2 hown hQ.1 hP 6 rfl rfl 4 (by decide) (hts (.fieldLink RX6 50 "HeatPumpPlant$Conditions" "target" "I") (List.mem_of_getElem? (i := 2) rfl)) (fun _ h9 => h9) rfl dX6_decide_54 ?_
      refine lv_aload_n hx hb dX6_decide_57 rfl (lv_at hl 3 rfl) ?_
      refine lv_iconst (v := (3 : Int32)) hx hb dX6_decide_58 (by decide) ?_
      have hPc : va_P D vwCl (wF [gS cI b2 b3 x1]) s.heap := hP.sub [2, 3] rfl
      refine c_Ri (va_runV (As := [.int (3 : Int32)]) (rest := [.int x3.2.2.2.2, .long (F1_temperatureOf x2 (0 : Int32)), .int (bI (!decide ((F1_temperatureOf x2 (3 : Int32)) < (F7_valueOf x1 (4 : Int32)).toInt64))), .ref b2, .ref b0]) ⟨hx, hb, hml, hown, hts⟩ (m7_valueOf l D cI cL cP b2 b3 x1 (3 : Int32) s.heap) (cwV 1 hts gX6_decide_X7_valueOf rfl rfl rfl (by decide +kernel) ⟨Nat.le_of_ble_eq_true rfl, Nat.le_of_ble_eq_true rfl⟩) (preR_V (q := (RX7, TX7, 1)) (q0 := 0) hQ hPc rfl rfl) rfl rfl hl.1 rfl (lv_room (Nat.le_of_ble_eq_true rfl)) dX6_decide_59 ⟨Nat.le_of_ble_eq_true rfl, Nat.le_of_ble_eq_true rfl⟩) hS (fun locs hS => ?_)
      refine lv_iadd hx hb dX6_decide_62 ?_
      refine lv_i2l hx hb dX6_decide_63 rfl ?_
      refine w_diaN (rest := [.int (bI (!decide ((F1_temperatureOf x2 (3 : Int32)) < (F7_valueOf x1 (4 : Int32)).toInt64))), .ref b2, .ref b0]) (K := (F1_temperatureOf x2 (0 : Int32)) < (x3.2.2.2.2 + (F7_valueOf x1 (3 : Int32))).toInt64) 73 (fun kt kf => ?_) ?_
      · refine w_llt (tgt := 72) hx hb dX6_decide_64 dX6_decide_65 (by decide) (fun c7 => ?_) (fun c7 => ?_)
        · have c7 : (F1_temperatureOf x2 (0 : Int32)) < (x3.2.2.2.2 + (F7_valueOf x1 (3 : Int32))).toInt64 := c7
          refine lv_iconst (v := (0 : Int32)) hx hb dX6_decide_72 (by decide) ?_
          exact kt c7
        · have c7 : ¬ ((F1_temperatureOf x2 (0 : Int32)) < (x3.2.2.2.2 + (F7_valueOf x1 (3 : Int32))).toInt64) := c7
          refine lv_iconst (v := (1 : Int32)) hx hb dX6_decide_68 (by decide) ?_
          refine lv_goto (tgt := 73) hx hb dX6_decide_69 (by decide) ?_
          exact kf c7
      have hPc : va_P D vwCl (wF [gP cI b0 b1 x0, gS cI b2 b3 x1]) s.heap := hP.sub [0, 1, 2, 3] rfl
      refine c_Ri (va_runV (As := [.ref b2, .int (bI (!decide ((F1_temperatureOf x2 (3 : Int32)) < (F7_valueOf x1 (4 : Int32)).toInt64))), .int (bI (!decide ((F1_temperatureOf x2 (0 : Int32)) < (x3.2.2.2.2 + (F7_valueOf x1 (3 : Int32))).toInt64)))]) (rest := []) ⟨hx, hb, hml, hown, hts⟩ (m6_decideWhileOn l D cI cL cP b0 b1 b2 b3 x0 x1 (!decide ((F1_temperatureOf x2 (3 : Int32)) < (F7_valueOf x1 (4 : Int32)).toInt64)) (!decide ((F1_temperatureOf x2 (0 : Int32)) < (x3.2.2.2.2 + (F7_valueOf x1 (3 : Int32))).toInt64)) s.heap) (cwV 3 hts gX6_decide_X6_decideWhileOn rfl rfl rfl (by decide +kernel) ⟨Nat.le_of_ble_eq_true rfl, Nat.le_of_ble_eq_true rfl⟩) (preR_V (q := (RX6, TX6, 7)) (q0 := 0) hQ hPc rfl rfl) rfl rfl hl.1 rfl (lv_room (Nat.le_of_ble_eq_true rfl)) dX6_decide_73 ⟨Nat.le_of_ble_eq_true rfl, Nat.le_of_ble_eq_true rfl⟩) hS (fun locs hS => ?_)
      exact W.iret (v := (F6_decideWhileOn x0 x1 (!decide ((F1_temperatureOf x2 (3 : Int32)) < (F7_valueOf x1 (4 : Int32)).toInt64)) (!decide ((F1_temperatureOf x2 (0 : Int32)) < (x3.2.2.2.2 + (F7_valueOf x1 (3 : Int32))).toInt64)))) hx hb hr (fun t ht hW => ⟨⟨(F6_decideWhileOn x0 x1 (!decide ((F1_temperatureOf x2 (3 : Int32)) < (F7_valueOf x1 (4 : Int32)).toInt64)) (!decide ((F1_temperatureOf x2 (0 : Int32)) < (x3.2.2.2.2 + (F7_valueOf x1 (3 : Int32))).toInt64))), (), rfl, ((Eq.trans (if_neg c1) (Eq.trans (if_pos c3) (rfl))).symm), ht⟩, hS.F ht⟩) hS.2.2 dX6_decide_76
  · have c1 : x0.1 = (2 : Int32) := c1
    refine lv_iconst (v := (0 : Int32)) hx hb dX6_decide_8 (by decide) ?_
    exact W.iret (v := (0 : Int32)) hx hb hr (fun t ht hW => ⟨⟨(0 : Int32), (), rfl, ((Eq.trans (if_pos c1) (rfl)).symm), ht⟩, hS.F ht⟩) hS.2.2 dX6_decide_9
