theorem mP_of {f g : Nat → Int64} (h : ∀ j, 41 ≤ j → j ≤ 91 → g j = f j) (hm : mP f) : mP g := by
  obtain ⟨a, b, c, d⟩ := hm
  refine ⟨?_, fun j hj => ?_, ?_, ?_⟩
  · rw [h 68 (by omega) (by omega)]; exact a
  · rw [h (41 + j) (by omega) (by omega)]; exact b j hj
  · rw [h 81 (by omega) (by omega)]; exact c
  · rw [h 91 (by omega) (by omega)]; exact d
theorem ms_o (f : Nat → Int64) (a b n j : Nat) (h : ¬ (b ≤ j ∧ j < b + n)) : w_ms f a b n j = f j := by
  unfold w_ms
  rw [if_neg h]
theorem ms_i (f : Nat → Int64) (a b n j : Nat) (h : j < n) : w_ms f a b n (b + j) = f (a + j) := by
  unfold w_ms
  rw [if_pos (by omega), Nat.add_sub_cancel_left]
theorem rec_o (x0 : MoN) (x1 : Nat → Int64) (j : Nat) (hj : j < 174) : (F11_records x0 x1).2.2 j = x1 j := by
  unfold F11_records
  split
  · unfold K11_records_2 K11_records_3 K11_records_4 K11_records_5
    show F11_copies _ _ _ j = _
    unfold F11_copies
    rw [ms_o _ _ _ _ _ (by omega), ms_o _ _ _ _ _ (by omega), ms_o _ _ _ _ _ (by omega), ms_o _ _ _ _ _ (by omega)]
  · show F11_copies _ _ _ j = _
    unfold F11_copies
    rw [ms_o _ _ _ _ _ (by omega)]
theorem rec_k (x0 : MoN) (x1 : Nat → Int64) (h : x0.1 ≤ 4) : (F11_records x0 x1).2.1.1 ≤ 4 := by
  unfold F11_records
  split
  · show (x0.1 - 1) + 1 ≤ 4
    omega
  · show x0.1 + 1 ≤ 4
    omega
def K11_minutes_1 (x0 : MoN) (x1 : (Nat → Int64)) (p1 : Nat) (i : Nat) (f : Nat → Int64) (rec2 : Nat → (Nat → Int64) → Nat × (Nat → Int64)) (z2 : (Nat → Int64)) : Nat × (Nat → Int64) := (rec2 (i + 1) z2)
def L11_minutes_2 (x0 : MoN) (x1 : (Nat → Int64)) (p1 : Nat) : Nat → Nat → (Nat → Int64) → Nat × (Nat → Int64)
  | 0, _, _ => default
  | fu + 1, i, f => (if p1 ≤ i then (i, f) else (K11_minutes_1 x0 x1 p1 i f (L11_minutes_2 x0 x1 p1 fu) (F11_minute x0 f)))
def K11_minutes_2 (x0 : MoN) (x1 : (Nat → Int64)) (p1 : Nat) (z3 : Nat × (Nat → Int64)) : (Nat → Int64) := z3.2
def F11_minutes (x0 : MoN) (x1 : (Nat → Int64)) (p1 : Nat) : (Nat → Int64) := (K11_minutes_2 x0 x1 p1 (L11_minutes_2 x0 x1 p1 (p1 + 1) 0 x1))
set_option maxHeartbeats 4000000 in
set_option maxRecDepth 100000 in
theorem m11_minutes (l : Launch) (D : va_G) (cI cL cP : ClassId) (b0 : Nat) (b1 : Nat) (b2 : Nat) (x0 : MoN) (x1 : (Nat → Int64)) (p1 : Nat) (hp1 : p1 < 2 ^ 31) (hm : mP x1) (ht : (x1 91).toInt + (p1 : Int) ≤ 1000000) (sz : Nat) : Met l yX11_minutes wsX11_minutes ({ frames := 4, cells := 0, slots := 0, locals := 107 }) (va_Pc [.ref b0, .int (nI p1)] (pM D cI cL cP sz (wF [gN b0 b2 b1 x0, gR cL b2 x1]))) (va_Qv (fun (w : (Nat → Int64)) => w = F11_minutes x0 x1 p1) (qW D (va_A (wF [gN b0 b2 b1 x0, gR cL b2 x1]) sz) (fun w : (Nat → Int64) => (wF [gN b0 b2 b1 x0, gR cL b2 w]))) (va_A (wF [gN b0 b2 b1 x0, gR cL b2 x1]) sz)) 0 0 (va_A (wF [gN b0 b2 b1 x0, gR cL b2 x1]) sz) := by
  refine Met.ofW (cc := cX11_minutes) (maxL := 3) (ret := none) (by decide) rfl ?_
  intro p e s m args below meth c s₁ B hml hv
  obtain ⟨rfl, hsz, hP, hQ, hD0⟩ := hv
  have hx := B.exec
  have hb := B.bytes
  have hr := B.returns
  have hts := atoms_spec (ws := wsX11_minutes) B.pre
  have hown : s.vm.findClass RX11 = some m.cls := findClass_of_methodNamed B.named
  have hlocks := B.notSynchronized
  subst hsz
  have hD := hD0.self (sz := s.heap.size)
  generalize hAe : va_A (wF [gN b0 b2 b1 x0, gR cL b2 x1]) s.heap.size = A at hD ⊢
  have hA : ∀ q : Nat, s.heap.size ≤ q → A q := fun q h => by rw [← hAe]; exact Or.inr h
  have hS : va_S A s.heap s.heap [] := va_S.rf
  have hP : va_P D vwCl (wF [gN b0 b2 b1 x0, gR cL b2 x1]) s.heap := hP
  have hl := lv_entry ([.ref b0, .int (nI p1)]) (n := 3) (Nat.le_of_ble_eq_true rfl)
  rw [lg_entry_eq]
  generalize (lg_sl ([.ref b0, .int (nI p1)]) ++ List.replicate (3 - (lg_sl ([.ref b0, .int (nI p1)])).length) Slot.unset).toArray = ls at hl ⊢
  have hl : lv_has ls 3 [(0, .ref b0), (1, .int (nI p1))] := hl
  have hinX11 : ∀ w ∈ wsX110, w ∈ wsX11_minutes := fun _ h => List.mem_cons_of_mem _ (List.mem_append_right _ h)
  refine lv_iconst (v := (0 : Int32)) hx hb dX11_minutes_0 (by decide) ?_
  refine lv_istore_n (lv' := [(2, .int (0 : Int32)), (0, .ref b0), (1, .int (nI p1))]) hx hb dX11_minutes_1 rfl hl (by decide) rfl (fun ls hl => ?_)
  have loop2 : ∀ (fu : Nat) (i : Nat) (f : Nat → Int64) (hi : i ≤ p1) (hf : mP f) (hft : (f 91).toInt + (p1 : Int) ≤ 1000000 + (i : Int)) (hm : p1 - i < fu) (kk : ∀ z : Nat × (Nat → Int64), z = L11_minutes_2 x0 x1 p1 fu i f → ((z.1) ≤ p1) → (mP (z.2)) → (((z.2) 91).toInt + (p1 : Int) ≤ 1000000 + ((z.1) : Int)) → ∀ (H : Heap) (locs : List Loc) (_ : va_P D vwCl (wF [gN b0 b2 b1 x0, gR cL b2 z.2]) H) (_ : va_D A (wF [gN b0 b2 b1 x0, gR cL b2 z.2])) (_ : va_S A s.heap H locs) (ls : Array Slot) (_ : lv_has ls 3 [(2, .int (nI z.1)), (0, .ref b0), (1, .int (nI p1))]), W p l e (headSpec wsX11_minutes ({ frames := 4, cells := 0, slots := 0, locals := 107 })).room s m #[.ref b0, .int (nI p1)] below meth c H locs 0 0 (MQ below (va_Qv (fun (w : (Nat → Int64)) => w = F11_minutes x0 x1 p1) (qW D A (fun w : (Nat → Int64) => (wF [gN b0 b2 b1 x0, gR cL b2 w]))) A) #[.ref b0, .int (nI p1)] s 0 0 A) (F0 m 17 ls [])), ∀ (H : Heap) (locs : List Loc) (_ : va_P D vwCl (wF [gN b0 b2 b1 x0, gR cL b2 f]) H) (_ : va_D A (wF [gN b0 b2 b1 x0, gR cL b2 f])) (_ : va_S A s.heap H locs) (ls : Array Slot) (_ : lv_has ls 3 [(2, .int (nI i)), (0, .ref b0), (1, .int (nI p1))]), W p l e (headSpec wsX11_minutes ({ frames := 4, cells := 0, slots := 0, locals := 107 })).room s m #[.ref b0, .int (nI p1)] below meth c H locs 0 0 (MQ below (va_Qv (fun (w : (Nat → Int64)) => w = F11_minutes x0 x1 p1) (qW D A (fun w : (Nat → Int64) => (wF [gN b0 b2 b1 x0, gR cL b2 w]))) A) #[.ref b0, .int (nI p1)] s 0 0 A) (F0 m 2 ls []) := by
    intro fu
    induction fu with
    | zero => intro i f hi hf hft hm; exact absurd hm (by omega)
    | succ fu ih =>
      intro i f hi hf hft hm kk H locs hP hD hS ls hl
      refine lv_iload_n hx hb dX11_minutes_2 rfl (lv_at hl 0 rfl) ?_
      refine lv_iload_n hx hb dX11_minutes_3 rfl (lv_at hl 2 rfl) ?_
      refine lv_icmp_ge (tgt := 17) hx hb dX11_minutes_4 (by decide) (fun c1 => ?_) (fun c1 => ?_)
      · have c1 : p1 ≤ i := (nI_leI (a := p1) (b := i) (by omega) (by omega)).mp c1
        exact kk (i, f) ((Eq.trans (if_pos c1) (rfl)).symm) hi hf hft H locs hP hD hS ls (lv_sub hl [0, 1, 2] rfl)
      · have c1 : ¬ (p1 ≤ i) := fun h9 => c1 ((nI_leI (a := p1) (b := i) (by omega) (by omega)).mpr h9)
        refine lv_aload_n hx hb dX11_minutes_7 rfl (lv_at hl 1 rfl) ?_
        have hPc : va_P D vwCl (wF [gN b0 b2 b1 x0, gR cL b2 f]) H := w_psub hP [0, 1] rfl
        have hDc : va_D A (wF [gN b0 b2 b1 x0, gR cL b2 f]) := w_gsub hD [0, 1] rfl rfl
        refine c_Mv (F := F11_minute x0 f) (G1 := (fun w => [gN b0 b2 b1 x0, gR cL b2 w])) (Gr := []) (Gs' := fun z2 => [gN b0 b2 b1 x0, gR cL b2 z2]) (va_runV (As := []) (rest := []) ⟨hx, hb, hml, hown, hts⟩ (m11_minute l D cI cL cP b0 b1 b2 x0 f hf H.size) (cwV 0 hts gX11_minutes_X11_minute rfl rfl rfl (by decide +kernel) ⟨Nat.le_of_ble_eq_true rfl, Nat.le_of_ble_eq_true rfl⟩) (preM_V (q := (RX11, TX11, 10)) (q0 := 0) hQ hPc hDc rfl rfl) rfl rfl hl.1 rfl (lv_room (Nat.le_of_ble_eq_true rfl)) dX11_minutes_8 ⟨Nat.le_of_ble_eq_true rfl, Nat.le_of_ble_eq_true rfl⟩) hS hA hP hD [0, 1] [] [0, 1] rfl rfl rfl rfl rfl (fun _ => rfl) (fun z2 H locs hz2 hP hD hS => ?_)
        have hP : va_P D vwCl (wF [gN b0 b2 b1 x0, gR cL b2 z2]) H := hP
        have hD : va_D A (wF [gN b0 b2 b1 x0, gR cL b2 z2]) := hD
        have hmp_z2 := min_p x0 hf (by omega)
        rw [← hz2] at hmp_z2
        refine lv_iinc (v := (nI (i + 1))) (lv' := [(2, .int (nI (i + 1))), (0, .ref b0), (1, .int (nI p1))]) hx hb dX11_minutes_11 hl (k := 0) rfl (nI_add i 1) (by decide) rfl (fun ls hl => ?_)
        refine lv_goto (tgt := 2) hx hb dX11_minutes_14 (by decide) ?_
        have hP : va_P D vwCl (wF [gN b0 b2 b1 x0, gR cL b2 z2]) H := hP
        have hD : va_D A (wF [gN b0 b2 b1 x0, gR cL b2 z2]) := hD
        exact ih (i + 1) z2 (by omega) (hmp_z2.1) (by have h9 := hmp_z2.2; omega) (by omega) (fun z hz => kk z (hz.trans ((Eq.trans (if_neg c1) (Eq.trans (congrArg (K11_minutes_1 x0 x1 p1 i f (L11_minutes_2 x0 x1 p1 fu)) hz2.symm) (rfl))).symm))) H locs hP hD hS ls (lv_sub hl [0, 1, 2] rfl)
  have hP : va_P D vwCl (wF [gN b0 b2 b1 x0, gR cL b2 x1]) s.heap := hP
  have hD : va_D A (wF [gN b0 b2 b1 x0, gR cL b2 x1]) := hD
  refine loop2 (p1 + 1) 0 x1 (by omega) (hm) (by omega) (by omega) (fun z3 hz3 hi_z3 hf_z3 hft_z3 H locs hP hD hS ls hl => ?_) s.heap [] hP hD hS ls (lv_sub hl [0, 1, 2] rfl)
  exact W.vret hx hb hr (fun t ht hW => ⟨⟨z3.2, rfl, ((Eq.trans (congrArg (K11_minutes_2 x0 x1 p1) hz3.symm) (rfl)).symm), by rw [ht]; exact hP, hD⟩, hS.F ht⟩) hS.2.2 dX11_minutes_17
theorem mts_o (x0 : MoN) (x1 : Nat → Int64) (n fu i : Nat) (f : Nat → Int64) (j : Nat) (hj : j ≤ 81 ∨ 174 ≤ j) : i ≤ n → n - i < fu → (L11_minutes_2 x0 x1 n fu i f).2 j = f j := by
  induction fu generalizing i f with
  | zero => intro _ h; exact absurd h (by omega)
  | succ fu ih =>
    intro h1 h2
    unfold L11_minutes_2
    split
    · rfl
    · exact (ih _ _ (by omega) (by omega)).trans (min_o x0 f j hj)
theorem mns_o (x0 : MoN) (x1 : Nat → Int64) (n j : Nat) (hj : j ≤ 81 ∨ 174 ≤ j) : F11_minutes x0 x1 n j = x1 j := by
  unfold F11_minutes K11_minutes_2
  exact mts_o x0 x1 n _ _ _ j hj (by omega) (by omega)
theorem mrec_p (x0 : MoN) {x1 : Nat → Int64} (h : mP x1) : mP (F11_records x0 x1).2.2 := mP_of (fun j _ _ => rec_o x0 x1 j (by omega)) h
theorem ms_p {x1 : Nat → Int64} (h : mP x1) : mP (w_ms x1 0 870 174) := mP_of (fun j _ _ => ms_o _ _ _ _ _ (by omega)) h
def K11_run_2 (x0 : MoN) (x1 : (Nat → Int64)) (p1 : Int32) (z3 : Int32 × MoN × (Nat → Int64)) (z4 : (Nat → Int64)) : Int32 × MoN × (Nat → Int64) := (((z4 105) - (z3.2.2 105)).toInt32, (z3.2.1, z4))
def K11_run_1 (x0 : MoN) (x1 : (Nat → Int64)) (p1 : Int32) (z3 : Int32 × MoN × (Nat → Int64)) : Int32 × MoN × (Nat → Int64) := (K11_run_2 x0 x1 p1 z3 (F11_minutes z3.2.1 z3.2.2 (p1.toNatClampNeg)))
def F11_run (x0 : MoN) (x1 : (Nat → Int64)) (p1 : Int32) : Int32 × MoN × (Nat → Int64) := (if (F11_in p1.toInt64 (1 : Int64) (1440 : Int64)) = true then (if ((x1 91) + p1.toInt64) ≤ (100000 : Int64) then (K11_run_1 x0 x1 p1 (F11_records x0 x1)) else ((-3 : Int32), (x0, x1))) else ((-1 : Int32), (x0, x1)))
set_option maxHeartbeats 4000000 in
set_option maxRecDepth 100000 in
theorem m11_run (l : Launch) (D : va_G) (cI cL cP : ClassId) (b0 : Nat) (b1 : Nat) (b2 : Nat) (x0 : MoN) (x1 : (Nat → Int64)) (p1 : Int32) (hk : x0.1 ≤ 4) (hm : mP x1) (ht : (x1 91).toInt ≤ 100000) (sz : Nat) : Met l yX11_run wsX11_run ({ frames := 5, cells := 0, slots := 0, locals := 129 }) (va_Pc [.ref b0, .int p1] (pM D cI cL cP sz (wF [gN b0 b2 b1 x0, gR cL b2 x1]))) (va_Qi (fun (r : Int32) (w : MoN × (Nat → Int64)) => (r, w) = F11_run x0 x1 p1) (qW D (va_A (wF [gN b0 b2 b1 x0, gR cL b2 x1]) sz) (fun w : MoN × (Nat → Int64) => (wF [gN b0 b2 b1 w.1, gR cL b2 w.2]))) (va_A (wF [gN b0 b2 b1 x0, gR cL b2 x1]) sz)) 0 0 (va_A (wF [gN b0 b2 b1 x0, gR cL b2 x1]) sz) := by
  refine Met.ofW (cc := cX11_run) (maxL := 4) (ret := (some .int)) (by decide) rfl ?_
  intro p e s m args below meth c s₁ B hml hv
  obtain ⟨rfl, hsz, hP, hQ, hD0⟩ := hv
  have hx := B.exec
  have hb := B.bytes
  have hr := B.returns
  have hts := atoms_spec (ws := wsX11_run) B.pre
  have hown : s.vm.findClass RX11 = some m.cls := findClass_of_methodNamed B.named
  have hlocks := B.notSynchronized
  subst hsz
  have hD := hD0.self (sz := s.heap.size)
  generalize hAe : va_A (wF [gN b0 b2 b1 x0, gR cL b2 x1]) s.heap.size = A at hD ⊢
  have hA : ∀ q : Nat, s.heap.size ≤ q → A q := fun q h => by rw [← hAe]; exact Or.inr h
  have hS : va_S A s.heap s.heap [] := va_S.rf
  have hP : va_P D vwCl (wF [gN b0 b2 b1 x0, gR cL b2 x1]) s.heap := hP
  have hl := lv_entry ([.ref b0, .int p1]) (n := 4) (Nat.le_of_ble_eq_true rfl)
  rw [lg_entry_eq]
  generalize (lg_sl ([.ref b0, .int p1]) ++ List.replicate (4 - (lg_sl ([.ref b0, .int p1])).length) Slot.unset).toArray = ls at hl ⊢
  have hl : lv_has ls 4 [(0, .ref b0), (1, .int p1)] := hl
  have hinX11 : ∀ w ∈ wsX110, w ∈ wsX11_run := fun _ h => List.mem_cons_of_mem _ (List.mem_append_right _ h)
  refine lv_iload_n hx hb dX11_run_0 rfl (lv_at hl 1 rfl) ?_
  refine lv_i2l hx hb dX11_run_1 rfl ?_
  refine lv_lconst (v := (1 : Int64)) hx hb dX11_run_2 rfl ?_
  refine lv_ldc2 (own := RX11) (index := 161) (v := (1440 : Int64)) hx hb hown (hts (.constantLong RX11 161 (1440)) (List.mem_of_getElem? (i := 1) rfl)) dX11_run_3 ?_
  have hPc : va_P D vwCl (wF []) s.heap := hP.sub [] rfl
  refine c_Ri (va_runS (As := [.long p1.toInt64, .long (1 : Int64), .long (1440 : Int64)]) (rest := []) ⟨hx, hb, hml, hown, hts⟩ (m11_in l D cI cL cP p1.toInt64 (1 : Int64) (1440 : Int64) s.heap) (va_cwS 3 hts gX11_run_X11_in rfl rfl rfl (by decide +kernel) ⟨Nat.le_of_ble_eq_true rfl, Nat.le_of_ble_eq_true rfl⟩) (preR_S hQ hPc) rfl rfl hl.1 rfl (lv_room (Nat.le_of_ble_eq_true rfl)) dX11_run_6 ⟨Nat.le_of_ble_eq_true rfl, Nat.le_of_ble_eq_true rfl⟩) hS (fun locs hS => ?_)
  refine lv_if_ne (tgt := 14) hx hb dX11_run_9 (by decide) (fun c1 => ?_) (fun c1 => ?_)
  · have c1 : (F11_in p1.toInt64 (1 : Int64) (1440 : Int64)) = true := bI_1.mp c1
    refine lv_aload_n hx hb dX11_run_14 rfl (lv_at hl 0 rfl) ?_
    refine va_get (D := D) (ci := 11) (v := .ref b2) (C := RX11) (T := TX11) (N := 10) hx hb hts hinX11 hown hQ.1 hP 0 rfl rfl 0 (by decide) (hts (.fieldLink RX11 7 "HeatPumpPlantModel" "row" "[J") (List.mem_of_getElem? (i := 2) rfl)) (fun _ h9 => h9) rfl dX11_run_15 ?_
    refine lv_bipush (v := (91 : Int32)) hx hb dX11_run_18 (by decide) ?_
    refine w_lald (f := x1) (j := 91) hx hb hQ.1 hP 1 1 rfl rfl (rfl : (91 : Int32) = nI 91) (by omega) (by decide) dX11_run_20 ?_
    refine lv_iload_n hx hb dX11_run_21 rfl (lv_at hl 1 rfl) ?_
    refine lv_i2l hx hb dX11_run_22 rfl ?_
    refine lv_ladd hx hb dX11_run_23 ?_
    refine lv_ldc2 (own := RX11) (index := 163) (v := (100000 : Int64)) hx hb hown (hts (.constantLong RX11 163 (100000)) (List.mem_of_getElem? (i := 3) rfl)) dX11_run_24 ?_
    refine w_lle (tgt := 34) hx hb dX11_run_27 dX11_run_28 (by decide) (fun c2 => ?_) (fun c2 => ?_)
    · have c2 : ((x1 91) + p1.toInt64) ≤ (100000 : Int64) := c2
      refine lv_aload_n hx hb dX11_run_34 rfl (lv_at hl 0 rfl) ?_
      have hPc : va_P D vwCl (wF [gN b0 b2 b1 x0, gR cL b2 x1]) s.heap := w_psub hP [0, 1] rfl
      have hDc : va_D A (wF [gN b0 b2 b1 x0, gR cL b2 x1]) := w_gsub hD [0, 1] rfl rfl
      refine c_Mi (F := F11_records x0 x1) (G1 := (fun w => [gN b0 b2 b1 w.1, gR cL b2 w.2])) (Gr := []) (Gs' := fun z3 => [gN b0 b2 b1 z3.2.1, gR cL b2 z3.2.2]) (va_runV (As := []) (rest := []) ⟨hx, hb, hml, hown, hts⟩ (m11_records l D cI cL cP b0 b1 b2 x0 x1 (by omega) s.heap.size) (cwV 0 hts gX11_run_X11_records rfl rfl rfl (by decide +kernel) ⟨Nat.le_of_ble_eq_true rfl, Nat.le_of_ble_eq_true rfl⟩) (preM_V (q := (RX11, TX11, 10)) (q0 := 0) hQ hPc hDc rfl rfl) rfl rfl hl.1 rfl (lv_room (Nat.le_of_ble_eq_true rfl)) dX11_run_35 ⟨Nat.le_of_ble_eq_true rfl, Nat.le_of_ble_eq_true rfl⟩) hS hA hP hD [0, 1] [] [0, 1] rfl rfl rfl rfl rfl (fun _ => rfl) (fun z3 H locs hz3 hP hD hS => ?_)
      have hP : va_P D vwCl (wF [gN b0 b2 b1 z3.2.1, gR cL b2 z3.2.2]) H := hP
      have hD : va_D A (wF [gN b0 b2 b1 z3.2.1, gR cL b2 z3.2.2]) := hD
      have hmz : mP z3.2.2 := by rw [hz3]; exact mrec_p x0 hm
      have htz : (z3.2.2 91).toInt ≤ 100000 := by rw [hz3, rec_o x0 x1 91 (by omega)]; exact ht
      refine lv_pop hx hb dX11_run_38 rfl ?_
      refine lv_aload_n hx hb dX11_run_39 rfl (lv_at hl 0 rfl) ?_
      refine va_get (D := D) (ci := 11) (v := .ref b2) (C := RX11) (T := TX11) (N := 10) hx hb hts hinX11 hown hQ.1 hP 0 rfl rfl 0 (by decide) (hts (.fieldLink RX11 7 "HeatPumpPlantModel" "row" "[J") (List.mem_of_getElem? (i := 2) rfl)) (fun _ h9 => h9) rfl dX11_run_40 ?_
      refine lv_bipush (v := (105 : Int32)) hx hb dX11_run_43 (by decide) ?_
      refine w_lald (f := z3.2.2) (j := 105) hx hb hQ.1 hP 1 1 rfl rfl (rfl : (105 : Int32) = nI 105) (by omega) (by decide) dX11_run_45 ?_
      refine lv_lstore_n (lv' := [(2, .long (z3.2.2 105)), (0, .ref b0), (1, .int p1)]) hx hb dX11_run_46 rfl hl (by decide) rfl (fun ls hl => ?_)
      refine lv_aload_n hx hb dX11_run_47 rfl (lv_at hl 1 rfl) ?_
      refine lv_iload_n hx hb dX11_run_48 rfl (lv_at hl 2 rfl) ?_
      refine w_topn (p1.toNatClampNeg) (w_inN c1 (by decide)) ?_
      have hPc : va_P D vwCl (wF [gN b0 b2 b1 z3.2.1, gR cL b2 z3.2.2]) H := w_psub hP [0, 1] rfl
      have hDc : va_D A (wF [gN b0 b2 b1 z3.2.1, gR cL b2 z3.2.2]) := w_gsub hD [0, 1] rfl rfl
      refine c_Mv (F := F11_minutes z3.2.1 z3.2.2 (p1.toNatClampNeg)) (G1 := (fun w => [gN b0 b2 b1 z3.2.1, gR cL b2 w])) (Gr := []) (Gs' := fun z4 => [gN b0 b2 b1 z3.2.1, gR cL b2 z4]) (va_runV (As := [.int (nI (p1.toNatClampNeg))]) (rest := []) ⟨hx, hb, hml, hown, hts⟩ (m11_minutes l D cI cL cP b0 b1 b2 z3.2.1 z3.2.2 (p1.toNatClampNeg) (by have h9 := w_inL (n := 1441) c1 (by decide) (by decide); omega) hmz (by have h9 := w_inL (n := 1441) c1 (by decide) (by decide); omega) H.size) (cwV 1 hts gX11_run_X11_minutes rfl rfl rfl (by decide +kernel) ⟨Nat.le_of_ble_eq_true rfl, Nat.le_of_ble_eq_true rfl⟩) (preM_V (q := (RX11, TX11, 10)) (q0 := 0) hQ hPc hDc rfl rfl) rfl rfl hl.1 rfl (lv_room (Nat.le_of_ble_eq_true rfl)) dX11_run_49 ⟨Nat.le_of_ble_eq_true rfl, Nat.le_of_ble_eq_true rfl⟩) hS hA hP hD [0, 1] [] [0, 1] rfl rfl rfl rfl rfl (fun _ => rfl) (fun z4 H locs hz4 hP hD hS => ?_)
      have hP : va_P D vwCl (wF [gN b0 b2 b1 z3.2.1, gR cL b2 z4]) H := hP
      have hD : va_D A (wF [gN b0 b2 b1 z3.2.1, gR cL b2 z4]) := hD
      refine lv_aload_n hx hb dX11_run_52 rfl (lv_at hl 1 rfl) ?_
      refine va_get (D := D) (ci := 11) (v := .ref b2) (C := RX11) (T := TX11) (N := 10) hx hb hts hinX11 hown hQ.1 hP 0 rfl rfl 0 (by decide) (hts (.fieldLink RX11 7 "HeatPumpPlantModel" "row" "[J") (List.mem_of_getElem? (i := 2) rfl)) (fun _ h9 => h9) rfl dX11_run_53 ?_
      refine lv_bipush (v := (105 : Int32)) hx hb dX11_run_56 (by decide) ?_
      refine w_lald (f := z4) (j := 105) hx hb hQ.1 hP 1 1 rfl rfl (rfl : (105 : Int32) = nI 105) (by omega) (by decide) dX11_run_58 ?_
      refine lv_lload_n hx hb dX11_run_59 rfl (lv_at hl 0 rfl) ?_
      refine lv_lsub hx hb dX11_run_60 ?_
      refine lv_l2i hx hb dX11_run_61 rfl ?_
      exact W.iret (v := ((z4 105) - (z3.2.2 105)).toInt32) hx hb hr (fun t ht hW => ⟨⟨((z4 105) - (z3.2.2 105)).toInt32, (z3.2.1, z4), rfl, ((Eq.trans (if_pos c1) (Eq.trans (if_pos c2) (Eq.trans (congrArg (K11_run_1 x0 x1 p1) hz3.symm) (Eq.trans (congrArg (K11_run_2 x0 x1 p1 z3) hz4.symm) (rfl))))).symm), by rw [ht]; exact hP, hD⟩, hS.F ht⟩) hS.2.2 dX11_run_62
    · have c2 : ¬ (((x1 91) + p1.toInt64) ≤ (100000 : Int64)) := c2
      refine lv_bipush (v := (-3 : Int32)) hx hb dX11_run_31 (by decide) ?_
      exact W.iret (v := (-3 : Int32)) hx hb hr (fun t ht hW => ⟨⟨(-3 : Int32), (x0, x1), rfl, ((Eq.trans (if_pos c1) (Eq.trans (if_neg c2) (rfl))).symm), by rw [ht]; exact hP, hD⟩, hS.F ht⟩) hS.2.2 dX11_run_33
  · have c1 : ¬ ((F11_in p1.toInt64 (1 : Int64) (1440 : Int64)) = true) := bI_0.mp c1
    refine lv_iconst (v := (-1 : Int32)) hx hb dX11_run_12 (by decide) ?_
    exact W.iret (v := (-1 : Int32)) hx hb hr (fun t ht hW => ⟨⟨(-1 : Int32), (x0, x1), rfl, ((Eq.trans (if_neg c1) (rfl)).symm), by rw [ht]; exact hP, hD⟩, hS.F ht⟩) hS.2.2 dX11_run_13
def K11_putAside_1 (x1 : (Nat → Int64)) (z1 : (Nat → Int64)) : (Nat → Int64) := z1
def F11_putAside (x1 : (Nat → Int64)) : (Nat → Int64) := (K11_putAside_1 x1 (F11_copies x1 0 870))
set_option maxHeartbeats 4000000 in
set_option maxRecDepth 100000 in
theorem m11_putAside (l : Launch) (D : va_G) (cI cL cP : ClassId) (b0 : Nat) (b1 : Nat) (b2 : Nat) (x0 : MoN) (x1 : (Nat → Int64)) (sz : Nat) : Met l yX11_putAside wsX11_putAside ({ frames := 1, cells := 0, slots := 0, locals := 23 }) (va_Pc [.ref b0] (pM D cI cL cP sz (wF [gN b0 b2 b1 x0, gR cL b2 x1]))) (va_Qv (fun (w : (Nat → Int64)) => w = F11_putAside x1) (qW D (va_A (wF [gN b0 b2 b1 x0, gR cL b2 x1]) sz) (fun w : (Nat → Int64) => (wF [gN b0 b2 b1 x0, gR cL b2 w]))) (va_A (wF [gN b0 b2 b1 x0, gR cL b2 x1]) sz)) 0 0 (va_A (wF [gN b0 b2 b1 x0, gR cL b2 x1]) sz) := by
  refine Met.ofW (cc := cX11_putAside) (maxL := 1) (ret := none) (by decide) rfl ?_
  intro p e s m args below meth c s₁ B hml hv
  obtain ⟨rfl, hsz, hP, hQ, hD0⟩ := hv
  have hx := B.exec
  have hb := B.bytes
  have hr := B.returns
  have hts := atoms_spec (ws := wsX11_putAside) B.pre
  have hown : s.vm.findClass RX11 = some m.cls := findClass_of_methodNamed B.named
  have hlocks := B.notSynchronized
  subst hsz
  have hD := hD0.self (sz := s.heap.size)
  generalize hAe : va_A (wF [gN b0 b2 b1 x0, gR cL b2 x1]) s.heap.size = A at hD ⊢
  have hA : ∀ q : Nat, s.heap.size ≤ q → A q := fun q h => by rw [← hAe]; exact Or.inr h
  have hS : va_S A s.heap s.heap [] := va_S.rf
  have hP : va_P D vwCl (wF [gN b0 b2 b1 x0, gR cL b2 x1]) s.heap := hP
  have hl := lv_entry ([.ref b0]) (n := 1) (Nat.le_of_ble_eq_true rfl)
  rw [lg_entry_eq]
  generalize (lg_sl ([.ref b0]) ++ List.replicate (1 - (lg_sl ([.ref b0])).length) Slot.unset).toArray = ls at hl ⊢
  have hl : lv_has ls 1 [(0, .ref b0)] := hl
  have hinX11 : ∀ w ∈ wsX110, w ∈ wsX11_putAside := fun _ h => List.mem_cons_of_mem _ (List.mem_append_right _ h)
  refine lv_aload_n hx hb dX11_putAside_0 rfl (lv_at hl 0 rfl) ?_
  refine lv_iconst (v := (0 : Int32)) hx hb dX11_putAside_1 (by decide) ?_
  refine lv_sipush (v := (870 : Int32)) hx hb dX11_putAside_2 (by decide) ?_
  have hPc : va_P D vwCl (wF [gN b0 b2 b1 x0, gR cL b2 x1]) s.heap := w_psub hP [0, 1] rfl
  have hDc : va_D A (wF [gN b0 b2 b1 x0, gR cL b2 x1]) := w_gsub hD [0, 1] rfl rfl
  refine c_Mv (F := F11_copies x1 0 870) (G1 := (fun w => [gN b0 b2 b1 x0, gR cL b2 w])) (Gr := []) (Gs' := fun z1 => [gN b0 b2 b1 x0, gR cL b2 z1]) (va_runV (As := [.int (nI 0), .int (nI 870)]) (rest := []) ⟨hx, hb, hml, hown, hts⟩ (m11_copies l D cI cL cP b0 b1 b2 x0 x1 0 870 (by omega) (by omega) (by omega) s.heap.size) (cwV 2 hts gX11_putAside_X11_copies rfl rfl rfl (by decide +kernel) ⟨Nat.le_of_ble_eq_true rfl, Nat.le_of_ble_eq_true rfl⟩) (preM_V (q := (RX11, TX11, 10)) (q0 := 0) hQ hPc hDc rfl rfl) rfl rfl hl.1 rfl (lv_room (Nat.le_of_ble_eq_true rfl)) dX11_putAside_5 ⟨Nat.le_of_ble_eq_true rfl, Nat.le_of_ble_eq_true rfl⟩) hS hA hP hD [0, 1] [] [0, 1] rfl rfl rfl rfl rfl (fun _ => rfl) (fun z1 H locs hz1 hP hD hS => ?_)
  have hP : va_P D vwCl (wF [gN b0 b2 b1 x0, gR cL b2 z1]) H := hP
  have hD : va_D A (wF [gN b0 b2 b1 x0, gR cL b2 z1]) := hD
  exact W.vret hx hb hr (fun t ht hW => ⟨⟨z1, rfl, ((Eq.trans (congrArg (K11_putAside_1 x1) hz1.symm) (rfl)).symm), by rw [ht]; exact hP, hD⟩, hS.F ht⟩) hS.2.2 dX11_putAside_8
def K11_comesBack_1 (x1 : (Nat → Int64)) (z1 : (Nat → Int64)) : (Nat → Int64) := z1
def F11_comesBack (x1 : (Nat → Int64)) : (Nat → Int64) := (K11_comesBack_1 x1 (F11_copies x1 870 0))
set_option maxHeartbeats 4000000 in
set_option maxRecDepth 100000 in
theorem m11_comesBack (l : Launch) (D : va_G) (cI cL cP : ClassId) (b0 : Nat) (b1 : Nat) (b2 : Nat) (x0 : MoN) (x1 : (Nat → Int64)) (sz : Nat) : Met l yX11_comesBack wsX11_comesBack ({ frames := 1, cells := 0, slots := 0, locals := 23 }) (va_Pc [.ref b0] (pM D cI cL cP sz (wF [gN b0 b2 b1 x0, gR cL b2 x1]))) (va_Qv (fun (w : (Nat → Int64)) => w = F11_comesBack x1) (qW D (va_A (wF [gN b0 b2 b1 x0, gR cL b2 x1]) sz) (fun w : (Nat → Int64) => (wF [gN b0 b2 b1 x0, gR cL b2 w]))) (va_A (wF [gN b0 b2 b1 x0, gR cL b2 x1]) sz)) 0 0 (va_A (wF [gN b0 b2 b1 x0, gR cL b2 x1]) sz) := by
  refine Met.ofW (cc := cX11_comesBack) (maxL := 1) (ret := none) (by decide) rfl ?_
  intro p e s m args below meth c s₁ B hml hv
  obtain ⟨rfl, hsz, hP, hQ, hD0⟩ := hv
  have hx := B.exec
  have hb := B.bytes
  have hr := B.returns
  have hts := atoms_spec (ws := wsX11_comesBack) B.pre
  have hown : s.vm.findClass RX11 = some m.cls := findClass_of_methodNamed B.named
  have hlocks := B.notSynchronized
  subst hsz
  have hD := hD0.self (sz := s.heap.size)
  generalize hAe : va_A (wF [gN b0 b2 b1 x0, gR cL b2 x1]) s.heap.size = A at hD ⊢
  have hA : ∀ q : Nat, s.heap.size ≤ q → A q := fun q h => by rw [← hAe]; exact Or.inr h
  have hS : va_S A s.heap s.heap [] := va_S.rf
  have hP : va_P D vwCl (wF [gN b0 b2 b1 x0, gR cL b2 x1]) s.heap := hP
  have hl := lv_entry ([.ref b0]) (n := 1) (Nat.le_of_ble_eq_true rfl)
  rw [lg_entry_eq]
  generalize (lg_sl ([.ref b0]) ++ List.replicate (1 - (lg_sl ([.ref b0])).length) Slot.unset).toArray = ls at hl ⊢
  have hl : lv_has ls 1 [(0, .ref b0)] := hl
  have hinX11 : ∀ w ∈ wsX110, w ∈ wsX11_comesBack := fun _ h => List.mem_cons_of_mem _ (List.mem_append_right _ h)
  refine lv_aload_n hx hb dX11_comesBack_0 rfl (lv_at hl 0 rfl) ?_
  refine lv_sipush (v := (870 : Int32)) hx hb dX11_comesBack_1 (by decide) ?_
  refine lv_iconst (v := (0 : Int32)) hx hb dX11_comesBack_4 (by decide) ?_
  have hPc : va_P D vwCl (wF [gN b0 b2 b1 x0, gR cL b2 x1]) s.heap := w_psub hP [0, 1] rfl
  have hDc : va_D A (wF [gN b0 b2 b1 x0, gR cL b2 x1]) := w_gsub hD [0, 1] rfl rfl
  refine c_Mv (F := F11_copies x1 870 0) (G1 := (fun w => [gN b0 b2 b1 x0, gR cL b2 w])) (Gr := []) (Gs' := fun z1 => [gN b0 b2 b1 x0, gR cL b2 z1]) (va_runV (As := [.int (nI 870), .int (nI 0)]) (rest := []) ⟨hx, hb, hml, hown, hts⟩ (m11_copies l D cI cL cP b0 b1 b2 x0 x1 870 0 (by omega) (by omega) (by omega) s.heap.size) (cwV 2 hts gX11_comesBack_X11_copies rfl rfl rfl (by decide +kernel) ⟨Nat.le_of_ble_eq_true rfl, Nat.le_of_ble_eq_true rfl⟩) (preM_V (q := (RX11, TX11, 10)) (q0 := 0) hQ hPc hDc rfl rfl) rfl rfl hl.1 rfl (lv_room (Nat.le_of_ble_eq_true rfl)) dX11_comesBack_5 ⟨Nat.le_of_ble_eq_true rfl, Nat.le_of_ble_eq_true rfl⟩) hS hA hP hD [0, 1] [] [0, 1] rfl rfl rfl rfl rfl (fun _ => rfl) (fun z1 H locs hz1 hP hD hS => ?_)
  have hP : va_P D vwCl (wF [gN b0 b2 b1 x0, gR cL b2 z1]) H := hP
  have hD : va_D A (wF [gN b0 b2 b1 x0, gR cL b2 z1]) := hD
  exact W.vret hx hb hr (fun t ht hW => ⟨⟨z1, rfl, ((Eq.trans (congrArg (K11_comesBack_1 x1) hz1.symm) (rfl)).symm), by rw [ht]; exact hP, hD⟩, hS.F ht⟩) hS.2.2 dX11_comesBack_8
theorem put_e (x1 : Nat → Int64) : F11_putAside x1 = w_ms x1 0 870 174 := rfl
theorem com_e (x1 : Nat → Int64) : F11_comesBack x1 = w_ms x1 870 0 174 := rfl
theorem put_o (x1 : Nat → Int64) (j : Nat) (h : j < 870) : F11_putAside x1 j = x1 j := ms_o _ _ _ _ _ (by omega)
theorem put_p {x1 : Nat → Int64} (h : mP x1) : mP (F11_putAside x1) := ms_p h
theorem u5_p {f : Nat → Int64} (h : mP f) (w : Int64) : mP (vp_updL f 5 w) := mP_of (fun _ _ _ => w_ro (by omega)) h
/-- what is put aside comes back -/
theorem com_b {f g : Nat → Int64} (hf : ∀ j, j < 174 → f (870 + j) = f j) (hg : ∀ j, 174 ≤ j → g j = f j) : F11_comesBack g = f := funext fun j => by
  rw [com_e]
  by_cases h : j < 174
  · have h1 := ms_i g 870 0 174 j h
    rw [Nat.zero_add] at h1
    rw [h1, hg _ (by omega), hf j h]
  · rw [ms_o _ _ _ _ _ (by omega), hg j (by omega)]
theorem put_s (x1 : Nat → Int64) (j : Nat) (h : j < 174) : F11_putAside x1 (870 + j) = F11_putAside x1 j := by
  rw [put_o x1 j (by omega), put_e, ms_i x1 0 870 174 j h, Nat.zero_add]
def K11_costIn_3 (x0 : MoN) (x1 : (Nat → Int64)) (p1 : Int32) (z2 : (Nat → Int64)) (z3 : (Nat → Int64)) (z4 : (Nat → Int64)) : Int64 × (Nat → Int64) := (((F11_cost z3) - (F11_cost z2)), z4)
def K11_costIn_2 (x0 : MoN) (x1 : (Nat → Int64)) (p1 : Int32) (z2 : (Nat → Int64)) (z3 : (Nat → Int64)) : Int64 × (Nat → Int64) := (K11_costIn_3 x0 x1 p1 z2 z3 (F11_comesBack z3))
def K11_costIn_1 (x0 : MoN) (x1 : (Nat → Int64)) (p1 : Int32) (z2 : (Nat → Int64)) : Int64 × (Nat → Int64) := (K11_costIn_2 x0 x1 p1 z2 (F11_minutes x0 z2 (p1.toNatClampNeg)))
def F11_costIn (x0 : MoN) (x1 : (Nat → Int64)) (p1 : Int32) : Int64 × (Nat → Int64) := (if (F11_in p1.toInt64 (1 : Int64) (720 : Int64)) = true then (K11_costIn_1 x0 x1 p1 (F11_putAside x1)) else ((-1 : Int64), x1))
set_option maxHeartbeats 4000000 in
set_option maxRecDepth 100000 in
theorem m11_costIn (l : Launch) (D : va_G) (cI cL cP : ClassId) (b0 : Nat) (b1 : Nat) (b2 : Nat) (x0 : MoN) (x1 : (Nat → Int64)) (p1 : Int32) (hm : mP x1) (ht : (x1 91).toInt ≤ 100000) (sz : Nat) : Met l yX11_costIn wsX11_costIn ({ frames := 5, cells := 0, slots := 0, locals := 129 }) (va_Pc [.ref b0, .int p1] (pM D cI cL cP sz (wF [gN b0 b2 b1 x0, gR cL b2 x1]))) (va_Ql (fun (r : Int64) (w : (Nat → Int64)) => (r, w) = F11_costIn x0 x1 p1) (qW D (va_A (wF [gN b0 b2 b1 x0, gR cL b2 x1]) sz) (fun w : (Nat → Int64) => (wF [gN b0 b2 b1 x0, gR cL b2 w]))) (va_A (wF [gN b0 b2 b1 x0, gR cL b2 x1]) sz)) 0 0 (va_A (wF [gN b0 b2 b1 x0, gR cL b2 x1]) sz) := by
  refine Met.ofW (cc := cX11_costIn) (maxL := 6) (ret := (some .long)) (by decide) rfl ?_
  intro p e s m args below meth c s₁ B hml hv
  obtain ⟨rfl, hsz, hP, hQ, hD0⟩ := hv
  have hx := B.exec
  have hb := B.bytes
  have hr := B.returns
  have hts := atoms_spec (ws := wsX11_costIn) B.pre
  have hown : s.vm.findClass RX11 = some m.cls := findClass_of_methodNamed B.named
  have hlocks := B.notSynchronized
  subst hsz
  have hD := hD0.self (sz := s.heap.size)
  generalize hAe : va_A (wF [gN b0 b2 b1 x0, gR cL b2 x1]) s.heap.size = A at hD ⊢
  have hA : ∀ q : Nat, s.heap.size ≤ q → A q := fun q h => by rw [← hAe]; exact Or.inr h
  have hS : va_S A s.heap s.heap [] := va_S.rf
  have hP : va_P D vwCl (wF [gN b0 b2 b1 x0, gR cL b2 x1]) s.heap := hP
  have hl := lv_entry ([.ref b0, .int p1]) (n := 6) (Nat.le_of_ble_eq_true rfl)
  rw [lg_entry_eq]
  generalize (lg_sl ([.ref b0, .int p1]) ++ List.replicate (6 - (lg_sl ([.ref b0, .int p1])).length) Slot.unset).toArray = ls at hl ⊢
  have hl : lv_has ls 6 [(0, .ref b0), (1, .int p1)] := hl
  have hinX11 : ∀ w ∈ wsX110, w ∈ wsX11_costIn := fun _ h => List.mem_cons_of_mem _ (List.mem_append_right _ h)
  refine lv_iload_n hx hb dX11_costIn_0 rfl (lv_at hl 1 rfl) ?_
  refine lv_i2l hx hb dX11_costIn_1 rfl ?_
  refine lv_lconst (v := (1 : Int64)) hx hb dX11_costIn_2 rfl ?_
  refine lv_ldc2 (own := RX11) (index := 179) (v := (720 : Int64)) hx hb hown (hts (.constantLong RX11 179 (720)) (List.mem_of_getElem? (i := 1) rfl)) dX11_costIn_3 ?_
  have hPc : va_P D vwCl (wF []) s.heap := hP.sub [] rfl
  refine c_Ri (va_runS (As := [.long p1.toInt64, .long (1 : Int64), .long (720 : Int64)]) (rest := []) ⟨hx, hb, hml, hown, hts⟩ (m11_in l D cI cL cP p1.toInt64 (1 : Int64) (720 : Int64) s.heap) (va_cwS 3 hts gX11_costIn_X11_in rfl rfl rfl (by decide +kernel) ⟨Nat.le_of_ble_eq_true rfl, Nat.le_of_ble_eq_true rfl⟩) (preR_S hQ hPc) rfl rfl hl.1 rfl (lv_room (Nat.le_of_ble_eq_true rfl)) dX11_costIn_6 ⟨Nat.le_of_ble_eq_true rfl, Nat.le_of_ble_eq_true rfl⟩) hS (fun locs hS => ?_)
  refine lv_if_ne (tgt := 16) hx hb dX11_costIn_9 (by decide) (fun c1 => ?_) (fun c1 => ?_)
  · have c1 : (F11_in p1.toInt64 (1 : Int64) (720 : Int64)) = true := bI_1.mp c1
    refine lv_aload_n hx hb dX11_costIn_16 rfl (lv_at hl 0 rfl) ?_
    have hPc : va_P D vwCl (wF [gN b0 b2 b1 x0, gR cL b2 x1]) s.heap := w_psub hP [0, 1] rfl
    have hDc : va_D A (wF [gN b0 b2 b1 x0, gR cL b2 x1]) := w_gsub hD [0, 1] rfl rfl
    refine c_Mv (F := F11_putAside x1) (G1 := (fun w => [gN b0 b2 b1 x0, gR cL b2 w])) (Gr := []) (Gs' := fun z2 => [gN b0 b2 b1 x0, gR cL b2 z2]) (va_runV (As := []) (rest := []) ⟨hx, hb, hml, hown, hts⟩ (m11_putAside l D cI cL cP b0 b1 b2 x0 x1 s.heap.size) (cwV 0 hts gX11_costIn_X11_putAside rfl rfl rfl (by decide +kernel) ⟨Nat.le_of_ble_eq_true rfl, Nat.le_of_ble_eq_true rfl⟩) (preM_V (q := (RX11, TX11, 10)) (q0 := 0) hQ hPc hDc rfl rfl) rfl rfl hl.1 rfl (lv_room (Nat.le_of_ble_eq_true rfl)) dX11_costIn_17 ⟨Nat.le_of_ble_eq_true rfl, Nat.le_of_ble_eq_true rfl⟩) hS hA hP hD [0, 1] [] [0, 1] rfl rfl rfl rfl rfl (fun _ => rfl) (fun z2 H locs hz2 hP hD hS => ?_)
    have hP : va_P D vwCl (wF [gN b0 b2 b1 x0, gR cL b2 z2]) H := hP
    have hD : va_D A (wF [gN b0 b2 b1 x0, gR cL b2 z2]) := hD
    have hmz : mP z2 := by rw [hz2]; exact put_p hm
    have htz : (z2 91).toInt ≤ 100000 := by rw [hz2, put_o x1 91 (by omega)]; exact ht
    refine lv_aload_n hx hb dX11_costIn_20 rfl (lv_at hl 0 rfl) ?_
    have hPc : va_P D vwCl (wF [gN b0 b2 b1 x0, gR cL b2 z2]) H := hP.sub [0, 1] rfl
    refine c_Rl (va_runV (As := []) (rest := []) ⟨hx, hb, hml, hown, hts⟩ (m11_cost l D cI cL cP b0 b1 b2 x0 z2 H) (cwV 0 hts gX11_costIn_X11_cost rfl rfl rfl (by decide +kernel) ⟨Nat.le_of_ble_eq_true rfl, Nat.le_of_ble_eq_true rfl⟩) (preR_V (q := (RX11, TX11, 10)) (q0 := 0) hQ hPc rfl rfl) rfl rfl hl.1 rfl (lv_room (Nat.le_of_ble_eq_true rfl)) dX11_costIn_21 ⟨Nat.le_of_ble_eq_true rfl, Nat.le_of_ble_eq_true rfl⟩) hS (fun locs hS => ?_)
    refine lv_lstore_n (lv' := [(2, .long (F11_cost z2)), (0, .ref b0), (1, .int p1)]) hx hb dX11_costIn_24 rfl hl (by decide) rfl (fun ls hl => ?_)
    refine lv_aload_n hx hb dX11_costIn_25 rfl (lv_at hl 1 rfl) ?_
    refine lv_iload_n hx hb dX11_costIn_26 rfl (lv_at hl 2 rfl) ?_
    refine w_topn (p1.toNatClampNeg) (w_inN c1 (by decide)) ?_
    have hPc : va_P D vwCl (wF [gN b0 b2 b1 x0, gR cL b2 z2]) H := w_psub hP [0, 1] rfl
    have hDc : va_D A (wF [gN b0 b2 b1 x0, gR cL b2 z2]) := w_gsub hD [0, 1] rfl rfl
    refine c_Mv (F := F11_minutes x0 z2 (p1.toNatClampNeg)) (G1 := (fun w => [gN b0 b2 b1 x0, gR cL b2 w])) (Gr := []) (Gs' := fun z3 => [gN b0 b2 b1 x0, gR cL b2 z3]) (va_runV (As := [.int (nI (p1.toNatClampNeg))]) (rest := []) ⟨hx, hb, hml, hown, hts⟩ (m11_minutes l D cI cL cP b0 b1 b2 x0 z2 (p1.toNatClampNeg) (by have h9 := w_inL (n := 721) c1 (by decide) (by decide); omega) hmz (by have h9 := w_inL (n := 721) c1 (by decide) (by decide); omega) H.size) (cwV 1 hts gX11_costIn_X11_minutes rfl rfl rfl (by decide +kernel) ⟨Nat.le_of_ble_eq_true rfl, Nat.le_of_ble_eq_true rfl⟩) (preM_V (q := (RX11, TX11, 10)) (q0 := 0) hQ hPc hDc rfl rfl) rfl rfl hl.1 rfl (lv_room (Nat.le_of_ble_eq_true rfl)) dX11_costIn_27 ⟨Nat.le_of_ble_eq_true rfl, Nat.le_of_ble_eq_true rfl⟩) hS hA hP hD [0, 1] [] [0, 1] rfl rfl rfl rfl rfl (fun _ => rfl) (fun z3 H locs hz3 hP hD hS => ?_)
    have hP : va_P D vwCl (wF [gN b0 b2 b1 x0, gR cL b2 z3]) H := hP
    have hD : va_D A (wF [gN b0 b2 b1 x0, gR cL b2 z3]) := hD
    refine lv_aload_n hx hb dX11_costIn_30 rfl (lv_at hl 1 rfl) ?_
    have hPc : va_P D vwCl (wF [gN b0 b2 b1 x0, gR cL b2 z3]) H := hP.sub [0, 1] rfl
    refine c_Rl (va_runV (As := []) (rest := []) ⟨hx, hb, hml, hown, hts⟩ (m11_cost l D cI cL cP b0 b1 b2 x0 z3 H) (cwV 0 hts gX11_costIn_X11_cost rfl rfl rfl (by decide +kernel) ⟨Nat.le_of_ble_eq_true rfl, Nat.le_of_ble_eq_true rfl⟩) (preR_V (q := (RX11, TX11, 10)) (q0 := 0) hQ hPc rfl rfl) rfl rfl hl.1 rfl (lv_room (Nat.le_of_ble_eq_true rfl)) dX11_costIn_31 ⟨Nat.le_of_ble_eq_true rfl, Nat.le_of_ble_eq_true rfl⟩) hS (fun locs hS => ?_)
    refine lv_lload_n hx hb dX11_costIn_34 rfl (lv_at hl 0 rfl) ?_
    refine lv_lsub hx hb dX11_costIn_35 ?_
    refine lv_lstore (lv' := [(4, .long ((F11_cost z3) - (F11_cost z2))), (2, .long (F11_cost z2)), (0, .ref b0), (1, .int p1)]) hx hb dX11_costIn_36 hl (by decide) rfl (fun ls hl => ?_)
    refine lv_aload_n hx hb dX11_costIn_38 rfl (lv_at hl 2 rfl) ?_
    have hPc : va_P D vwCl (wF [gN b0 b2 b1 x0, gR cL b2 z3]) H := w_psub hP [0, 1] rfl
    have hDc : va_D A (wF [gN b0 b2 b1 x0, gR cL b2 z3]) := w_gsub hD [0, 1] rfl rfl
    refine c_Mv (F := F11_comesBack z3) (G1 := (fun w => [gN b0 b2 b1 x0, gR cL b2 w])) (Gr := []) (Gs' := fun z4 => [gN b0 b2 b1 x0, gR cL b2 z4]) (va_runV (As := []) (rest := []) ⟨hx, hb, hml, hown, hts⟩ (m11_comesBack l D cI cL cP b0 b1 b2 x0 z3 H.size) (cwV 0 hts gX11_costIn_X11_comesBack rfl rfl rfl (by decide +kernel) ⟨Nat.le_of_ble_eq_true rfl, Nat.le_of_ble_eq_true rfl⟩) (preM_V (q := (RX11, TX11, 10)) (q0 := 0) hQ hPc hDc rfl rfl) rfl rfl hl.1 rfl (lv_room (Nat.le_of_ble_eq_true rfl)) dX11_costIn_39 ⟨Nat.le_of_ble_eq_true rfl, Nat.le_of_ble_eq_true rfl⟩) hS hA hP hD [0, 1] [] [0, 1] rfl rfl rfl rfl rfl (fun _ => rfl) (fun z4 H locs hz4 hP hD hS => ?_)
    have hP : va_P D vwCl (wF [gN b0 b2 b1 x0, gR cL b2 z4]) H := hP
    have hD : va_D A (wF [gN b0 b2 b1 x0, gR cL b2 z4]) := hD
    refine lv_lload hx hb dX11_costIn_42 (lv_at hl 0 rfl) ?_
    exact W.lret (v := ((F11_cost z3) - (F11_cost z2))) hx hb hr (fun t ht hW => ⟨⟨((F11_cost z3) - (F11_cost z2)), z4, rfl, ((Eq.trans (if_pos c1) (Eq.trans (congrArg (K11_costIn_1 x0 x1 p1) hz2.symm) (Eq.trans (congrArg (K11_costIn_2 x0 x1 p1 z2) hz3.symm) (Eq.trans (congrArg (K11_costIn_3 x0 x1 p1 z2 z3) hz4.symm) (rfl))))).symm), by rw [ht]; exact hP, hD⟩, hS.F ht⟩) hS.2.2 dX11_costIn_44
  · have c1 : ¬ ((F11_in p1.toInt64 (1 : Int64) (720 : Int64)) = true) := bI_0.mp c1
    refine lv_ldc2 (own := RX11) (index := 181) (v := (-1 : Int64)) hx hb hown (hts (.constantLong RX11 181 (-1)) (List.mem_of_getElem? (i := 2) rfl)) dX11_costIn_12 ?_
    exact W.lret (v := (-1 : Int64)) hx hb hr (fun t ht hW => ⟨⟨(-1 : Int64), x1, rfl, ((Eq.trans (if_neg c1) (rfl)).symm), by rw [ht]; exact hP, hD⟩, hS.F ht⟩) hS.2.2 dX11_costIn_15
def K11_nextSwitch_2 (x0 : MoN) (x1 : (Nat → Int64)) (i : Nat) (r : Int32) (f : Nat → Int64) (z2 : (Nat → Int64)) (rec28 : Nat → Int32 → (Nat → Int64) → Nat × Int32 × (Nat → Int64)) (z5 : (Nat → Int64)) : Nat × Int32 × (Nat → Int64) := (rec28 (i + 1) (if (bI (decide ((z5 86) = (0 : Int64)))) = (bI (decide ((x1 86) = (0 : Int64)))) then (-9999 : Int32) else (nI i)) z5)
def L11_nextSwitch_28 (x0 : MoN) (x1 : (Nat → Int64)) (z2 : (Nat → Int64)) : Nat → Nat → Int32 → (Nat → Int64) → Nat × Int32 × (Nat → Int64)
  | 0, _, _, _ => default
  | fu + 1, i, r, f => (if 720 < i then (i, r, f) else (if r = (-9999 : Int32) then (K11_nextSwitch_2 x0 x1 i r f z2 (L11_nextSwitch_28 x0 x1 z2 fu) (F11_minute x0 f)) else (i, r, f)))
def K11_nextSwitch_4 (x0 : MoN) (x1 : (Nat → Int64)) (z2 : (Nat → Int64)) (z8 : Nat × Int32 × (Nat → Int64)) (z9 : (Nat → Int64)) : Int32 × (Nat → Int64) := (z8.2.1, z9)
def K11_nextSwitch_3 (x0 : MoN) (x1 : (Nat → Int64)) (z2 : (Nat → Int64)) (z8 : Nat × Int32 × (Nat → Int64)) : Int32 × (Nat → Int64) := (K11_nextSwitch_4 x0 x1 z2 z8 (F11_comesBack z8.2.2))
def K11_nextSwitch_1 (x0 : MoN) (x1 : (Nat → Int64)) (z2 : (Nat → Int64)) : Int32 × (Nat → Int64) := (K11_nextSwitch_3 x0 x1 z2 (L11_nextSwitch_28 x0 x1 z2 721 1 (-9999 : Int32) z2))
def F11_nextSwitch (x0 : MoN) (x1 : (Nat → Int64)) : Int32 × (Nat → Int64) := (K11_nextSwitch_1 x0 x1 (F11_putAside x1))
set_option maxHeartbeats 4000000 in
set_option maxRecDepth 100000 in
theorem m11_nextSwitch (l : Launch) (D : va_G) (cI cL cP : ClassId) (b0 : Nat) (b1 : Nat) (b2 : Nat) (x0 : MoN) (x1 : (Nat → Int64)) (hm : mP x1) (ht : (x1 91).toInt ≤ 100000) (sz : Nat) : Met l yX11_nextSwitch wsX11_nextSwitch ({ frames := 4, cells := 0, slots := 0, locals := 107 }) (va_Pc [.ref b0] (pM D cI cL cP sz (wF [gN b0 b2 b1 x0, gR cL b2 x1]))) (va_Qi (fun (r : Int32) (w : (Nat → Int64)) => (r, w) = F11_nextSwitch x0 x1) (qW D (va_A (wF [gN b0 b2 b1 x0, gR cL b2 x1]) sz) (fun w : (Nat → Int64) => (wF [gN b0 b2 b1 x0, gR cL b2 w]))) (va_A (wF [gN b0 b2 b1 x0, gR cL b2 x1]) sz)) 0 0 (va_A (wF [gN b0 b2 b1 x0, gR cL b2 x1]) sz) := by
  refine Met.ofW (cc := cX11_nextSwitch) (maxL := 4) (ret := (some .int)) (by decide) rfl ?_
  intro p e s m args below meth c s₁ B hml hv
  obtain ⟨rfl, hsz, hP, hQ, hD0⟩ := hv
  have hx := B.exec
  have hb := B.bytes
  have hr := B.returns
  have hts := atoms_spec (ws := wsX11_nextSwitch) B.pre
  have hown : s.vm.findClass RX11 = some m.cls := findClass_of_methodNamed B.named
  have hlocks := B.notSynchronized
  subst hsz
  have hD := hD0.self (sz := s.heap.size)
  generalize hAe : va_A (wF [gN b0 b2 b1 x0, gR cL b2 x1]) s.heap.size = A at hD ⊢
  have hA : ∀ q : Nat, s.heap.size ≤ q → A q := fun q h => by rw [← hAe]; exact Or.inr h
  have hS : va_S A s.heap s.heap [] := va_S.rf
  have hP : va_P D vwCl (wF [gN b0 b2 b1 x0, gR cL b2 x1]) s.heap := hP
  have hl := lv_entry ([.ref b0]) (n := 4) (Nat.le_of_ble_eq_true rfl)
  rw [lg_entry_eq]
  generalize (lg_sl ([.ref b0]) ++ List.replicate (4 - (lg_sl ([.ref b0])).length) Slot.unset).toArray = ls at hl ⊢
  have hl : lv_has ls 4 [(0, .ref b0)] := hl
  have hinX11 : ∀ w ∈ wsX110, w ∈ wsX11_nextSwitch := fun _ h => List.mem_cons_of_mem _ (List.mem_append_right _ h)
  refine lv_aload_n hx hb dX11_nextSwitch_0 rfl (lv_at hl 0 rfl) ?_
  refine va_get (D := D) (ci := 11) (v := .ref b2) (C := RX11) (T := TX11) (N := 10) hx hb hts hinX11 hown hQ.1 hP 0 rfl rfl 0 (by decide) (hts (.fieldLink RX11 7 "HeatPumpPlantModel" "row" "[J") (List.mem_of_getElem? (i := 1) rfl)) (fun _ h9 => h9) rfl dX11_nextSwitch_1 ?_
  refine lv_bipush (v := (86 : Int32)) hx hb dX11_nextSwitch_4 (by decide) ?_
  refine w_lald (f := x1) (j := 86) hx hb hQ.1 hP 1 1 rfl rfl (rfl : (86 : Int32) = nI 86) (by omega) (by decide) dX11_nextSwitch_6 ?_
  refine lv_lconst (v := (0 : Int64)) hx hb dX11_nextSwitch_7 rfl ?_
  refine w_diaB (rest := []) (K := (x1 86) = (0 : Int64)) 17 (fun kt kf => ?_) ?_
  · refine w_lne (tgt := 16) hx hb dX11_nextSwitch_8 dX11_nextSwitch_9 (by decide) (fun c1 => ?_) (fun c1 => ?_)
    · have c1 : ¬ ((x1 86) = (0 : Int64)) := c1
      refine lv_iconst (v := (0 : Int32)) hx hb dX11_nextSwitch_16 (by decide) ?_
      exact kf c1
    · have c1 : (x1 86) = (0 : Int64) := c1
      refine lv_iconst (v := (1 : Int32)) hx hb dX11_nextSwitch_12 (by decide) ?_
      refine lv_goto (tgt := 17) hx hb dX11_nextSwitch_13 (by decide) ?_
      exact kt c1
  refine lv_istore_n (lv' := [(1, .int (bI (decide ((x1 86) = (0 : Int64))))), (0, .ref b0)]) hx hb dX11_nextSwitch_17 rfl hl (by decide) rfl (fun ls hl => ?_)
  refine lv_sipush (v := (-9999 : Int32)) hx hb dX11_nextSwitch_18 (by decide) ?_
  refine lv_istore_n (lv' := [(2, .int (-9999 : Int32)), (1, .int (bI (decide ((x1 86) = (0 : Int64))))), (0, .ref b0)]) hx hb dX11_nextSwitch_21 rfl hl (by decide) rfl (fun ls hl => ?_)
  refine lv_aload_n hx hb dX11_nextSwitch_22 rfl (lv_at hl 2 rfl) ?_
  have hPc : va_P D vwCl (wF [gN b0 b2 b1 x0, gR cL b2 x1]) s.heap := w_psub hP [0, 1] rfl
  have hDc : va_D A (wF [gN b0 b2 b1 x0, gR cL b2 x1]) := w_gsub hD [0, 1] rfl rfl
  refine c_Mv (F := F11_putAside x1) (G1 := (fun w => [gN b0 b2 b1 x0, gR cL b2 w])) (Gr := []) (Gs' := fun z2 => [gN b0 b2 b1 x0, gR cL b2 z2]) (va_runV (As := []) (rest := []) ⟨hx, hb, hml, hown, hts⟩ (m11_putAside l D cI cL cP b0 b1 b2 x0 x1 s.heap.size) (cwV 0 hts gX11_nextSwitch_X11_putAside rfl rfl rfl (by decide +kernel) ⟨Nat.le_of_ble_eq_true rfl, Nat.le_of_ble_eq_true rfl⟩) (preM_V (q := (RX11, TX11, 10)) (q0 := 0) hQ hPc hDc rfl rfl) rfl rfl hl.1 rfl (lv_room (Nat.le_of_ble_eq_true rfl)) dX11_nextSwitch_23 ⟨Nat.le_of_ble_eq_true rfl, Nat.le_of_ble_eq_true rfl⟩) hS hA hP hD [0, 1] [] [0, 1] rfl rfl rfl rfl rfl (fun _ => rfl) (fun z2 H locs hz2 hP hD hS => ?_)
  have hP : va_P D vwCl (wF [gN b0 b2 b1 x0, gR cL b2 z2]) H := hP
  have hD : va_D A (wF [gN b0 b2 b1 x0, gR cL b2 z2]) := hD
  have hmz : mP z2 := by rw [hz2]; exact put_p hm
  have htz : (z2 91).toInt ≤ 100000 := by rw [hz2, put_o x1 91 (by omega)]; exact ht
  refine lv_iconst (v := (1 : Int32)) hx hb dX11_nextSwitch_26 (by decide) ?_
  refine lv_istore_n (lv' := [(3, .int (1 : Int32)), (2, .int (-9999 : Int32)), (1, .int (bI (decide ((x1 86) = (0 : Int64))))), (0, .ref b0)]) hx hb dX11_nextSwitch_27 rfl hl (by decide) rfl (fun ls hl => ?_)
  have loop28 : ∀ (fu : Nat) (i : Nat) (r : Int32) (f : Nat → Int64) (hi : 1 ≤ i ∧ i ≤ 721) (hf : mP f) (hft : (f 91).toInt ≤ 100000 + (i : Int)) (hm : 721 - i < fu) (kk : ∀ z : Nat × Int32 × (Nat → Int64), z = L11_nextSwitch_28 x0 x1 z2 fu i r f → (1 ≤ (z.1) ∧ (z.1) ≤ 721) → (mP (z.2.2)) → (((z.2.2) 91).toInt ≤ 100000 + ((z.1) : Int)) → ∀ (H : Heap) (locs : List Loc) (_ : va_P D vwCl (wF [gN b0 b2 b1 x0, gR cL b2 z.2.2]) H) (_ : va_D A (wF [gN b0 b2 b1 x0, gR cL b2 z.2.2])) (_ : va_S A s.heap H locs) (ls : Array Slot) (_ : lv_has ls 4 [(3, .int (nI z.1)), (2, .int z.2.1), (1, .int (bI (decide ((x1 86) = (0 : Int64))))), (0, .ref b0)]), W p l e (headSpec wsX11_nextSwitch ({ frames := 4, cells := 0, slots := 0, locals := 107 })).room s m #[.ref b0] below meth c H locs 0 0 (MQ below (va_Qi (fun (r : Int32) (w : (Nat → Int64)) => (r, w) = F11_nextSwitch x0 x1) (qW D A (fun w : (Nat → Int64) => (wF [gN b0 b2 b1 x0, gR cL b2 w]))) A) #[.ref b0] s 0 0 A) (F0 m 81 ls [])), ∀ (H : Heap) (locs : List Loc) (_ : va_P D vwCl (wF [gN b0 b2 b1 x0, gR cL b2 f]) H) (_ : va_D A (wF [gN b0 b2 b1 x0, gR cL b2 f])) (_ : va_S A s.heap H locs) (ls : Array Slot) (_ : lv_has ls 4 [(3, .int (nI i)), (2, .int r), (1, .int (bI (decide ((x1 86) = (0 : Int64))))), (0, .ref b0)]), W p l e (headSpec wsX11_nextSwitch ({ frames := 4, cells := 0, slots := 0, locals := 107 })).room s m #[.ref b0] below meth c H locs 0 0 (MQ below (va_Qi (fun (r : Int32) (w : (Nat → Int64)) => (r, w) = F11_nextSwitch x0 x1) (qW D A (fun w : (Nat → Int64) => (wF [gN b0 b2 b1 x0, gR cL b2 w]))) A) #[.ref b0] s 0 0 A) (F0 m 28 ls []) := by
    intro fu
    induction fu with
    | zero => intro i r f hi hf hft hm; exact absurd hm (by omega)
    | succ fu ih =>
      intro i r f hi hf hft hm kk H locs hP hD hS ls hl
      refine lv_iload_n hx hb dX11_nextSwitch_28 rfl (lv_at hl 0 rfl) ?_
      refine lv_sipush (v := (720 : Int32)) hx hb dX11_nextSwitch_29 (by decide) ?_
      refine lv_icmp_gt (tgt := 81) hx hb dX11_nextSwitch_32 (by decide) (fun c3 => ?_) (fun c3 => ?_)
      · have c3 : 720 < i := (nI_ltI (a := 720) (b := i) (by omega) (by omega)).mp c3
        exact kk (i, r, f) ((Eq.trans (if_pos c3) (rfl)).symm) hi hf hft H locs hP hD hS ls (lv_sub hl [0, 1, 2, 3] rfl)
      · have c3 : ¬ (720 < i) := fun h9 => c3 ((nI_ltI (a := 720) (b := i) (by omega) (by omega)).mpr h9)
        refine lv_iload_n hx hb dX11_nextSwitch_35 rfl (lv_at hl 1 rfl) ?_
        refine lv_sipush (v := (-9999 : Int32)) hx hb dX11_nextSwitch_36 (by decide) ?_
        refine lv_icmp_ne (tgt := 81) hx hb dX11_nextSwitch_39 (by decide) (fun c4 => ?_) (fun c4 => ?_)
        · have c4 : ¬ (r = (-9999 : Int32)) := c4
          exact kk (i, r, f) ((Eq.trans (if_neg c3) (Eq.trans (if_neg c4) (rfl))).symm) hi hf hft H locs hP hD hS ls (lv_sub hl [0, 1, 2, 3] rfl)
        · have c4 : r = (-9999 : Int32) := c4
          refine lv_aload_n hx hb dX11_nextSwitch_42 rfl (lv_at hl 3 rfl) ?_
          have hPc : va_P D vwCl (wF [gN b0 b2 b1 x0, gR cL b2 f]) H := w_psub hP [0, 1] rfl
          have hDc : va_D A (wF [gN b0 b2 b1 x0, gR cL b2 f]) := w_gsub hD [0, 1] rfl rfl
          refine c_Mv (F := F11_minute x0 f) (G1 := (fun w => [gN b0 b2 b1 x0, gR cL b2 w])) (Gr := []) (Gs' := fun z5 => [gN b0 b2 b1 x0, gR cL b2 z5]) (va_runV (As := []) (rest := []) ⟨hx, hb, hml, hown, hts⟩ (m11_minute l D cI cL cP b0 b1 b2 x0 f hf H.size) (cwV 0 hts gX11_nextSwitch_X11_minute rfl rfl rfl (by decide +kernel) ⟨Nat.le_of_ble_eq_true rfl, Nat.le_of_ble_eq_true rfl⟩) (preM_V (q := (RX11, TX11, 10)) (q0 := 0) hQ hPc hDc rfl rfl) rfl rfl hl.1 rfl (lv_room (Nat.le_of_ble_eq_true rfl)) dX11_nextSwitch_43 ⟨Nat.le_of_ble_eq_true rfl, Nat.le_of_ble_eq_true rfl⟩) hS hA hP hD [0, 1] [] [0, 1] rfl rfl rfl rfl rfl (fun _ => rfl) (fun z5 H locs hz5 hP hD hS => ?_)
          have hP : va_P D vwCl (wF [gN b0 b2 b1 x0, gR cL b2 z5]) H := hP
          have hD : va_D A (wF [gN b0 b2 b1 x0, gR cL b2 z5]) := hD
          have hmp_z5 := min_p x0 hf (by omega)
          rw [← hz5] at hmp_z5
          refine lv_aload_n hx hb dX11_nextSwitch_46 rfl (lv_at hl 3 rfl) ?_
          refine va_get (D := D) (ci := 11) (v := .ref b2) (C := RX11) (T := TX11) (N := 10) hx hb hts hinX11 hown hQ.1 hP 0 rfl rfl 0 (by decide) (hts (.fieldLink RX11 7 "HeatPumpPlantModel" "row" "[J") (List.mem_of_getElem? (i := 1) rfl)) (fun _ h9 => h9) rfl dX11_nextSwitch_47 ?_
          refine lv_bipush (v := (86 : Int32)) hx hb dX11_nextSwitch_50 (by decide) ?_
          refine w_lald (f := z5) (j := 86) hx hb hQ.1 hP 1 1 rfl rfl (rfl : (86 : Int32) = nI 86) (by omega) (by decide) dX11_nextSwitch_52 ?_
          refine lv_lconst (v := (0 : Int64)) hx hb dX11_nextSwitch_53 rfl ?_
          refine w_diaB (rest := []) (K := (z5 86) = (0 : Int64)) 63 (fun kt kf => ?_) ?_
          · refine w_lne (tgt := 62) hx hb dX11_nextSwitch_54 dX11_nextSwitch_55 (by decide) (fun c6 => ?_) (fun c6 => ?_)
            · have c6 : ¬ ((z5 86) = (0 : Int64)) := c6
              refine lv_iconst (v := (0 : Int32)) hx hb dX11_nextSwitch_62 (by decide) ?_
              exact kf c6
            · have c6 : (z5 86) = (0 : Int64) := c6
              refine lv_iconst (v := (1 : Int32)) hx hb dX11_nextSwitch_58 (by decide) ?_
              refine lv_goto (tgt := 63) hx hb dX11_nextSwitch_59 (by decide) ?_
              exact kt c6
          refine lv_iload_n hx hb dX11_nextSwitch_63 rfl (lv_at hl 2 rfl) ?_
          refine w_diaI (rest := []) (K := (bI (decide ((z5 86) = (0 : Int64)))) = (bI (decide ((x1 86) = (0 : Int64))))) 74 (-9999 : Int32) (nI i) (fun kt kf => ?_) ?_
          · refine lv_icmp_eq (tgt := 71) hx hb dX11_nextSwitch_64 (by decide) (fun c7 => ?_) (fun c7 => ?_)
            · have c7 : (bI (decide ((z5 86) = (0 : Int64)))) = (bI (decide ((x1 86) = (0 : Int64)))) := c7
              refine lv_sipush (v := (-9999 : Int32)) hx hb dX11_nextSwitch_71 (by decide) ?_
              exact kt c7
            · have c7 : ¬ ((bI (decide ((z5 86) = (0 : Int64)))) = (bI (decide ((x1 86) = (0 : Int64))))) := c7
              refine lv_iload_n hx hb dX11_nextSwitch_67 rfl (lv_at hl 0 rfl) ?_
              refine lv_goto (tgt := 74) hx hb dX11_nextSwitch_68 (by decide) ?_
              exact kf c7
          refine lv_istore_n (lv' := [(2, .int (if (bI (decide ((z5 86) = (0 : Int64)))) = (bI (decide ((x1 86) = (0 : Int64)))) then (-9999 : Int32) else (nI i))), (3, .int (nI i)), (1, .int (bI (decide ((x1 86) = (0 : Int64))))), (0, .ref b0)]) hx hb dX11_nextSwitch_74 rfl hl (by decide) rfl (fun ls hl => ?_)
          refine lv_iinc (v := (nI (i + 1))) (lv' := [(3, .int (nI (i + 1))), (2, .int (if (bI (decide ((z5 86) = (0 : Int64)))) = (bI (decide ((x1 86) = (0 : Int64)))) then (-9999 : Int32) else (nI i))), (1, .int (bI (decide ((x1 86) = (0 : Int64))))), (0, .ref b0)]) hx hb dX11_nextSwitch_75 hl (k := 1) rfl (nI_add i 1) (by decide) rfl (fun ls hl => ?_)
          refine lv_goto (tgt := 28) hx hb dX11_nextSwitch_78 (by decide) ?_
          have hP : va_P D vwCl (wF [gN b0 b2 b1 x0, gR cL b2 z5]) H := hP
          have hD : va_D A (wF [gN b0 b2 b1 x0, gR cL b2 z5]) := hD
          exact ih (i + 1) (if (bI (decide ((z5 86) = (0 : Int64)))) = (bI (decide ((x1 86) = (0 : Int64)))) then (-9999 : Int32) else (nI i)) z5 (⟨by omega, by omega⟩) (hmp_z5.1) (by have h9 := hmp_z5.2; omega) (by omega) (fun z hz => kk z (hz.trans ((Eq.trans (if_neg c3) (Eq.trans (if_pos c4) (Eq.trans (congrArg (K11_nextSwitch_2 x0 x1 i r f z2 (L11_nextSwitch_28 x0 x1 z2 fu)) hz5.symm) (rfl)))).symm))) H locs hP hD hS ls (lv_sub hl [0, 1, 2, 3] rfl)
  have hP : va_P D vwCl (wF [gN b0 b2 b1 x0, gR cL b2 z2]) H := hP
  have hD : va_D A (wF [gN b0 b2 b1 x0, gR cL b2 z2]) := hD
  refine loop28 721 1 (-9999 : Int32) z2 (⟨by omega, by omega⟩) (hmz) (by omega) (by omega) (fun z8 hz8 hi_z8 hf_z8 hft_z8 H locs hP hD hS ls hl => ?_) H locs hP hD hS ls (lv_sub hl [0, 1, 2, 3] rfl)
  refine lv_aload_n hx hb dX11_nextSwitch_81 rfl (lv_at hl 3 rfl) ?_
  have hPc : va_P D vwCl (wF [gN b0 b2 b1 x0, gR cL b2 z8.2.2]) H := w_psub hP [0, 1] rfl
  have hDc : va_D A (wF [gN b0 b2 b1 x0, gR cL b2 z8.2.2]) := w_gsub hD [0, 1] rfl rfl
  refine c_Mv (F := F11_comesBack z8.2.2) (G1 := (fun w => [gN b0 b2 b1 x0, gR cL b2 w])) (Gr := []) (Gs' := fun z9 => [gN b0 b2 b1 x0, gR cL b2 z9]) (va_runV (As := []) (rest := []) ⟨hx, hb, hml, hown, hts⟩ (m11_comesBack l D cI cL cP b0 b1 b2 x0 z8.2.2 H.size) (cwV 0 hts gX11_nextSwitch_X11_comesBack rfl rfl rfl (by decide +kernel) ⟨Nat.le_of_ble_eq_true rfl, Nat.le_of_ble_eq_true rfl⟩) (preM_V (q := (RX11, TX11, 10)) (q0 := 0) hQ hPc hDc rfl rfl) rfl rfl hl.1 rfl (lv_room (Nat.le_of_ble_eq_true rfl)) dX11_nextSwitch_82 ⟨Nat.le_of_ble_eq_true rfl, Nat.le_of_ble_eq_true rfl⟩) hS hA hP hD [0, 1] [] [0, 1] rfl rfl rfl rfl rfl (fun _ => rfl) (fun z9 H locs hz9 hP hD hS => ?_)
  have hP : va_P D vwCl (wF [gN b0 b2 b1 x0, gR cL b2 z9]) H := hP
  have hD : va_D A (wF [gN b0 b2 b1 x0, gR cL b2 z9]) := hD
  refine lv_iload_n hx hb dX11_nextSwitch_85 rfl (lv_at hl 1 rfl) ?_
  exact W.iret (v := z8.2.1) hx hb hr (fun t ht hW => ⟨⟨z8.2.1, z9, rfl, ((Eq.trans (congrArg (K11_nextSwitch_1 x0 x1) hz2.symm) (Eq.trans (congrArg (K11_nextSwitch_3 x0 x1 z2) hz8.symm) (Eq.trans (congrArg (K11_nextSwitch_4 x0 x1 z2 z8) hz9.symm) (rfl)))).symm), by rw [ht]; exact hP, hD⟩, hS.F ht⟩) hS.2.2 dX11_nextSwitch_86
def B11_bestBoost_52 (x0 : MoN) (x1 : (Nat → Int64)) (p1 : Int32) (i : Nat) (bb : Int32) (lu : Int64) (lc : Int64) (z2 : (Nat → Int64)) (z4 : (Nat → Int64)) : Bool := (if bb = (-9999 : Int32) then true else (if (F11_unmet z4) < lu then true else (if (F11_unmet z4) = lu then (if lc ≤ (F11_cost z4) then false else true) else false)))
def K11_bestBoost_4 (x0 : MoN) (x1 : (Nat → Int64)) (p1 : Int32) (i : Nat) (bb : Int32) (lu : Int64) (lc : Int64) (z2 : (Nat → Int64)) (z4 : (Nat → Int64)) (z9 : Bool) (rec30 : Nat → Int32 → Int64 → Int64 → Nat × Int32 × Int64 × Int64) (z13 : (Nat → Int64)) : Nat × Int32 × Int64 × Int64 := (rec30 (i + 10) (if z9 = true then (nI i) else bb) (if z9 = true then (F11_unmet z4) else lu) (if z9 = true then (F11_cost z4) else lc))
def K11_bestBoost_3 (x0 : MoN) (x1 : (Nat → Int64)) (p1 : Int32) (i : Nat) (bb : Int32) (lu : Int64) (lc : Int64) (z2 : (Nat → Int64)) (z4 : (Nat → Int64)) (rec30 : Nat → Int32 → Int64 → Int64 → Nat × Int32 × Int64 × Int64) (z9 : Bool) : Nat × Int32 × Int64 × Int64 := (K11_bestBoost_4 x0 x1 p1 i bb lu lc z2 z4 z9 rec30 (F11_comesBack z4))
def K11_bestBoost_2 (x0 : MoN) (x1 : (Nat → Int64)) (p1 : Int32) (i : Nat) (bb : Int32) (lu : Int64) (lc : Int64) (z2 : (Nat → Int64)) (rec30 : Nat → Int32 → Int64 → Int64 → Nat × Int32 × Int64 × Int64) (z4 : (Nat → Int64)) : Nat × Int32 × Int64 × Int64 := (K11_bestBoost_3 x0 x1 p1 i bb lu lc z2 z4 rec30 (B11_bestBoost_52 x0 x1 p1 i bb lu lc z2 z4))
def L11_bestBoost_30 (x0 : MoN) (x1 : (Nat → Int64)) (p1 : Int32) (z2 : (Nat → Int64)) : Nat → Nat → Int32 → Int64 → Int64 → Nat × Int32 × Int64 × Int64
  | 0, _, _, _, _ => default
  | fu + 1, i, bb, lu, lc => (if 150 < i then (i, bb, lu, lc) else (K11_bestBoost_2 x0 x1 p1 i bb lu lc z2 (L11_bestBoost_30 x0 x1 p1 z2 fu) (F11_minutes x0 (vp_updL z2 5 ((nI i).toInt64)) (p1.toNatClampNeg))))
def K11_bestBoost_5 (x0 : MoN) (x1 : (Nat → Int64)) (p1 : Int32) (z2 : (Nat → Int64)) (z14 : Nat × Int32 × Int64 × Int64) : Int32 × (Nat → Int64) := (z14.2.1, z2)
def K11_bestBoost_1 (x0 : MoN) (x1 : (Nat → Int64)) (p1 : Int32) (z2 : (Nat → Int64)) : Int32 × (Nat → Int64) := (K11_bestBoost_5 x0 x1 p1 z2 (L11_bestBoost_30 x0 x1 p1 z2 17 0 (-9999 : Int32) (0 : Int64) (0 : Int64)))
def F11_bestBoost (x0 : MoN) (x1 : (Nat → Int64)) (p1 : Int32) : Int32 × (Nat → Int64) := (if (F11_in p1.toInt64 (1 : Int64) (360 : Int64)) = true then (K11_bestBoost_1 x0 x1 p1 (F11_putAside x1)) else ((-1 : Int32), x1))
set_option maxHeartbeats 4000000 in
set_option maxRecDepth 100000 in
theorem m11_bestBoost (l : Launch) (D : va_G) (cI cL cP : ClassId) (b0 : Nat) (b1 : Nat) (b2 : Nat) (x0 : MoN) (x1 : (Nat → Int64)) (p1 : Int32) (hm : mP x1) (ht : (x1 91).toInt ≤ 100000) (sz : Nat) : Met l yX11_bestBoost wsX11_bestBoost ({ frames := 5, cells := 0, slots := 0, locals := 129 }) (va_Pc [.ref b0, .int p1] (pM D cI cL cP sz (wF [gN b0 b2 b1 x0, gR cL b2 x1]))) (va_Qi (fun (r : Int32) (w : (Nat → Int64)) => (r, w) = F11_bestBoost x0 x1 p1) (qW D (va_A (wF [gN b0 b2 b1 x0, gR cL b2 x1]) sz) (fun w : (Nat → Int64) => (wF [gN b0 b2 b1 x0, gR cL b2 w]))) (va_A (wF [gN b0 b2 b1 x0, gR cL b2 x1]) sz)) 0 0 (va_A (wF [gN b0 b2 b1 x0, gR cL b2 x1]) sz) := by
  refine Met.ofW (cc := cX11_bestBoost) (maxL := 9) (ret := (some .int)) (by decide) rfl ?_
  intro p e s m args below meth c s₁ B hml hv
  obtain ⟨rfl, hsz, hP, hQ, hD0⟩ := hv
  have hx := B.exec
  have hb := B.bytes
  have hr := B.returns
  have hts := atoms_spec (ws := wsX11_bestBoost) B.pre
  have hown : s.vm.findClass RX11 = some m.cls := findClass_of_methodNamed B.named
  have hlocks := B.notSynchronized
  subst hsz
  have hD := hD0.self (sz := s.heap.size)
  generalize hAe : va_A (wF [gN b0 b2 b1 x0, gR cL b2 x1]) s.heap.size = A at hD ⊢
  have hA : ∀ q : Nat, s.heap.size ≤ q → A q := fun q h => by rw [← hAe]; exact Or.inr h
  have hS : va_S A s.heap s.heap [] := va_S.rf
  have hP : va_P D vwCl (wF [gN b0 b2 b1 x0, gR cL b2 x1]) s.heap := hP
  have hl := lv_entry ([.ref b0, .int p1]) (n := 9) (Nat.le_of_ble_eq_true rfl)
  rw [lg_entry_eq]
  generalize (lg_sl ([.ref b0, .int p1]) ++ List.replicate (9 - (lg_sl ([.ref b0, .int p1])).length) Slot.unset).toArray = ls at hl ⊢
  have hl : lv_has ls 9 [(0, .ref b0), (1, .int p1)] := hl
  have hinX11 : ∀ w ∈ wsX110, w ∈ wsX11_bestBoost := fun _ h => List.mem_cons_of_mem _ (List.mem_append_right _ h)
  refine lv_iload_n hx hb dX11_bestBoost_0 rfl (lv_at hl 1 rfl) ?_
  refine lv_i2l hx hb dX11_bestBoost_1 rfl ?_
  refine lv_lconst (v := (1 : Int64)) hx hb dX11_bestBoost_2 rfl ?_
  refine lv_ldc2 (own := RX11) (index := 192) (v := (360 : Int64)) hx hb hown (hts (.constantLong RX11 192 (360)) (List.mem_of_getElem? (i := 1) rfl)) dX11_bestBoost_3 ?_
  have hPc : va_P D vwCl (wF []) s.heap := hP.sub [] rfl
  refine c_Ri (va_runS (As := [.long p1.toInt64, .long (1 : Int64), .long (360 : Int64)]) (rest := []) ⟨hx, hb, hml, hown, hts⟩ (m11_in l D cI cL cP p1.toInt64 (1 : Int64) (360 : Int64) s.heap) (va_cwS 3 hts gX11_bestBoost_X11_in rfl rfl rfl (by decide +kernel) ⟨Nat.le_of_ble_eq_true rfl, Nat.le_of_ble_eq_true rfl⟩) (preR_S hQ hPc) rfl rfl hl.1 rfl (lv_room (Nat.le_of_ble_eq_true rfl)) dX11_bestBoost_6 ⟨Nat.le_of_ble_eq_true rfl, Nat.le_of_ble_eq_true rfl⟩) hS (fun locs hS => ?_)
  refine lv_if_ne (tgt := 14) hx hb dX11_bestBoost_9 (by decide) (fun c1 => ?_) (fun c1 => ?_)
  · have c1 : (F11_in p1.toInt64 (1 : Int64) (360 : Int64)) = true := bI_1.mp c1
    refine lv_sipush (v := (-9999 : Int32)) hx hb dX11_bestBoost_14 (by decide) ?_
    refine lv_istore_n (lv' := [(2, .int (-9999 : Int32)), (0, .ref b0), (1, .int p1)]) hx hb dX11_bestBoost_17 rfl hl (by decide) rfl (fun ls hl => ?_)
    refine lv_lconst (v := (0 : Int64)) hx hb dX11_bestBoost_18 rfl ?_
    refine lv_lstore_n (lv' := [(3, .long (0 : Int64)), (2, .int (-9999 : Int32)), (0, .ref b0), (1, .int p1)]) hx hb dX11_bestBoost_19 rfl hl (by decide) rfl (fun ls hl => ?_)
    refine lv_lconst (v := (0 : Int64)) hx hb dX11_bestBoost_20 rfl ?_
    refine lv_lstore (lv' := [(5, .long (0 : Int64)), (3, .long (0 : Int64)), (2, .int (-9999 : Int32)), (0, .ref b0), (1, .int p1)]) hx hb dX11_bestBoost_21 hl (by decide) rfl (fun ls hl => ?_)
    refine lv_aload_n hx hb dX11_bestBoost_23 rfl (lv_at hl 3 rfl) ?_
    have hPc : va_P D vwCl (wF [gN b0 b2 b1 x0, gR cL b2 x1]) s.heap := w_psub hP [0, 1] rfl
    have hDc : va_D A (wF [gN b0 b2 b1 x0, gR cL b2 x1]) := w_gsub hD [0, 1] rfl rfl
    refine c_Mv (F := F11_putAside x1) (G1 := (fun w => [gN b0 b2 b1 x0, gR cL b2 w])) (Gr := []) (Gs' := fun z2 => [gN b0 b2 b1 x0, gR cL b2 z2]) (va_runV (As := []) (rest := []) ⟨hx, hb, hml, hown, hts⟩ (m11_putAside l D cI cL cP b0 b1 b2 x0 x1 s.heap.size) (cwV 0 hts gX11_bestBoost_X11_putAside rfl rfl rfl (by decide +kernel) ⟨Nat.le_of_ble_eq_true rfl, Nat.le_of_ble_eq_true rfl⟩) (preM_V (q := (RX11, TX11, 10)) (q0 := 0) hQ hPc hDc rfl rfl) rfl rfl hl.1 rfl (lv_room (Nat.le_of_ble_eq_true rfl)) dX11_bestBoost_24 ⟨Nat.le_of_ble_eq_true rfl, Nat.le_of_ble_eq_true rfl⟩) hS hA hP hD [0, 1] [] [0, 1] rfl rfl rfl rfl rfl (fun _ => rfl) (fun z2 H locs hz2 hP hD hS => ?_)
    have hP : va_P D vwCl (wF [gN b0 b2 b1 x0, gR cL b2 z2]) H := hP
    have hD : va_D A (wF [gN b0 b2 b1 x0, gR cL b2 z2]) := hD
    have hmz : mP z2 := by rw [hz2]; exact put_p hm
    have htz : (z2 91).toInt ≤ 100000 := by rw [hz2, put_o x1 91 (by omega)]; exact ht
    refine lv_iconst (v := (0 : Int32)) hx hb dX11_bestBoost_27 (by decide) ?_
    refine lv_istore (lv' := [(7, .int (0 : Int32)), (5, .long (0 : Int64)), (3, .long (0 : Int64)), (2, .int (-9999 : Int32)), (0, .ref b0), (1, .int p1)]) hx hb dX11_bestBoost_28 hl (by decide) rfl (fun ls hl => ?_)
    have loop30 : ∀ (fu : Nat) (i : Nat) (bb : Int32) (lu : Int64) (lc : Int64) (hi : i ≤ 160) (hm : 16 - i / 10 < fu) (kk : ∀ z : Nat × Int32 × Int64 × Int64, z = L11_bestBoost_30 x0 x1 p1 z2 fu i bb lu lc → ((z.1) ≤ 160) → ∀ (H : Heap) (locs : List Loc) (_ : va_P D vwCl (wF [gN b0 b2 b1 x0, gR cL b2 z2]) H) (_ : va_D A (wF [gN b0 b2 b1 x0, gR cL b2 z2])) (_ : va_S A s.heap H locs) (ls : Array Slot) (_ : lv_has ls 9 [(7, .int (nI z.1)), (5, .long z.2.2.2), (3, .long z.2.2.1), (2, .int z.2.1), (0, .ref b0), (1, .int p1)]), W p l e (headSpec wsX11_bestBoost ({ frames := 5, cells := 0, slots := 0, locals := 129 })).room s m #[.ref b0, .int p1] below meth c H locs 0 0 (MQ below (va_Qi (fun (r : Int32) (w : (Nat → Int64)) => (r, w) = F11_bestBoost x0 x1 p1) (qW D A (fun w : (Nat → Int64) => (wF [gN b0 b2 b1 x0, gR cL b2 w]))) A) #[.ref b0, .int p1] s 0 0 A) (F0 m 146 ls [])), ∀ (H : Heap) (locs : List Loc) (_ : va_P D vwCl (wF [gN b0 b2 b1 x0, gR cL b2 z2]) H) (_ : va_D A (wF [gN b0 b2 b1 x0, gR cL b2 z2])) (_ : va_S A s.heap H locs) (ls : Array Slot) (_ : lv_has ls 9 [(7, .int (nI i)), (5, .long lc), (3, .long lu), (2, .int bb), (0, .ref b0), (1, .int p1)]), W p l e (headSpec wsX11_bestBoost ({ frames := 5, cells := 0, slots := 0, locals := 129 })).room s m #[.ref b0, .int p1] below meth c H locs 0 0 (MQ below (va_Qi (fun (r : Int32) (w : (Nat → Int64)) => (r, w) = F11_bestBoost x0 x1 p1) (qW D A (fun w : (Nat → Int64) => (wF [gN b0 b2 b1 x0, gR cL b2 w]))) A) #[.ref b0, .int p1] s 0 0 A) (F0 m 30 ls []) := by
      intro fu
      induction fu with
      | zero => intro i bb lu lc hi hm; exact absurd hm (by omega)
      | succ fu ih =>
        intro i bb lu lc hi hm kk H locs hP hD hS ls hl
        refine lv_iload hx hb dX11_bestBoost_30 (lv_at hl 0 rfl) ?_
        refine lv_sipush (v := (150 : Int32)) hx hb dX11_bestBoost_32 (by decide) ?_
        refine lv_icmp_gt (tgt := 146) hx hb dX11_bestBoost_35 (by decide) (fun c3 => ?_) (fun c3 => ?_)
        · have c3 : 150 < i := (nI_ltI (a := 150) (b := i) (by omega) (by omega)).mp c3
          exact kk (i, bb, lu, lc) ((Eq.trans (if_pos c3) (rfl)).symm) hi H locs hP hD hS ls (lv_sub hl [0, 1, 2, 3, 4, 5] rfl)
        · have c3 : ¬ (150 < i) := fun h9 => c3 ((nI_ltI (a := 150) (b := i) (by omega) (by omega)).mpr h9)
          refine lv_aload_n hx hb dX11_bestBoost_38 rfl (lv_at hl 4 rfl) ?_
          refine va_get (D := D) (ci := 11) (v := .ref b2) (C := RX11) (T := TX11) (N := 10) hx hb hts hinX11 hown hQ.1 hP 0 rfl rfl 0 (by decide) (hts (.fieldLink RX11 7 "HeatPumpPlantModel" "row" "[J") (List.mem_of_getElem? (i := 2) rfl)) (fun _ h9 => h9) rfl dX11_bestBoost_39 ?_
          refine lv_iconst (v := (5 : Int32)) hx hb dX11_bestBoost_42 (by decide) ?_
          refine lv_iload hx hb dX11_bestBoost_43 (lv_at hl 0 rfl) ?_
          refine lv_i2l hx hb dX11_bestBoost_45 rfl ?_
          refine w_last (f := z2) (j := 5) hx hb hQ.1 hP hD hS 1 1 rfl rfl (rfl : (5 : Int32) = nI 5) (by omega) (by decide) dX11_bestBoost_46 (fun H locs hP hD hS => ?_)
          have hP : va_P D vwCl (wF [gN b0 b2 b1 x0, gR cL b2 (vp_updL z2 5 ((nI i).toInt64))]) H := hP
          have hD : va_D A (wF [gN b0 b2 b1 x0, gR cL b2 (vp_updL z2 5 ((nI i).toInt64))]) := hD
          refine lv_aload_n hx hb dX11_bestBoost_47 rfl (lv_at hl 4 rfl) ?_
          refine lv_iload_n hx hb dX11_bestBoost_48 rfl (lv_at hl 5 rfl) ?_
          refine w_topn (p1.toNatClampNeg) (w_inN c1 (by decide)) ?_
          have hPc : va_P D vwCl (wF [gN b0 b2 b1 x0, gR cL b2 (vp_updL z2 5 ((nI i).toInt64))]) H := w_psub hP [0, 1] rfl
          have hDc : va_D A (wF [gN b0 b2 b1 x0, gR cL b2 (vp_updL z2 5 ((nI i).toInt64))]) := w_gsub hD [0, 1] rfl rfl
          refine c_Mv (F := F11_minutes x0 (vp_updL z2 5 ((nI i).toInt64)) (p1.toNatClampNeg)) (G1 := (fun w => [gN b0 b2 b1 x0, gR cL b2 w])) (Gr := []) (Gs' := fun z4 => [gN b0 b2 b1 x0, gR cL b2 z4]) (va_runV (As := [.int (nI (p1.toNatClampNeg))]) (rest := []) ⟨hx, hb, hml, hown, hts⟩ (m11_minutes l D cI cL cP b0 b1 b2 x0 (vp_updL z2 5 ((nI i).toInt64)) (p1.toNatClampNeg) (by have h9 := w_inL (n := 361) c1 (by decide) (by decide); omega) (u5_p hmz _) (by have h9 := w_inL (n := 361) c1 (by decide) (by decide); rw [w_ro (by omega)]; omega) H.size) (cwV 1 hts gX11_bestBoost_X11_minutes rfl rfl rfl (by decide +kernel) ⟨Nat.le_of_ble_eq_true rfl, Nat.le_of_ble_eq_true rfl⟩) (preM_V (q := (RX11, TX11, 10)) (q0 := 0) hQ hPc hDc rfl rfl) rfl rfl hl.1 rfl (lv_room (Nat.le_of_ble_eq_true rfl)) dX11_bestBoost_49 ⟨Nat.le_of_ble_eq_true rfl, Nat.le_of_ble_eq_true rfl⟩) hS hA hP hD [0, 1] [] [0, 1] rfl rfl rfl rfl rfl (fun _ => rfl) (fun z4 H locs hz4 hP hD hS => ?_)
          have hP : va_P D vwCl (wF [gN b0 b2 b1 x0, gR cL b2 z4]) H := hP
          have hD : va_D A (wF [gN b0 b2 b1 x0, gR cL b2 z4]) := hD
          refine w_suf (P := ∀ z : Bool, z = B11_bestBoost_52 x0 x1 p1 i bb lu lc z2 z4 → ∀ (H : Heap) (locs : List Loc) (_ : va_P D vwCl (wF [gN b0 b2 b1 x0, gR cL b2 z4]) H) (_ : va_D A (wF [gN b0 b2 b1 x0, gR cL b2 z4])) (_ : va_S A s.heap H locs) (ls : Array Slot) (_ : lv_has ls 9 [(8, .int (bI z)), (7, .int (nI i)), (5, .long lc), (3, .long lu), (2, .int bb), (0, .ref b0), (1, .int p1)]), W p l e (headSpec wsX11_bestBoost ({ frames := 5, cells := 0, slots := 0, locals := 129 })).room s m #[.ref b0, .int p1] below meth c H locs 0 0 (MQ below (va_Qi (fun (r : Int32) (w : (Nat → Int64)) => (r, w) = F11_bestBoost x0 x1 p1) (qW D A (fun w : (Nat → Int64) => (wF [gN b0 b2 b1 x0, gR cL b2 w]))) A) #[.ref b0, .int p1] s 0 0 A) (F0 m 94 ls [])) (fun kk => ?_) ?_
          · refine lv_iload_n hx hb dX11_bestBoost_52 rfl (lv_at hl 3 rfl) ?_
            refine lv_sipush (v := (-9999 : Int32)) hx hb dX11_bestBoost_53 (by decide) ?_
            refine lv_icmp_eq (tgt := 87) hx hb dX11_bestBoost_56 (by decide) (fun c5 => ?_) (fun c5 => ?_)
            · have c5 : bb = (-9999 : Int32) := c5
              refine lv_iconst (v := (1 : Int32)) hx hb dX11_bestBoost_87 (by decide) ?_
              refine lv_goto (tgt := 92) hx hb dX11_bestBoost_88 (by decide) ?_
              refine lv_istore (lv' := [(8, .int (1 : Int32)), (7, .int (nI i)), (5, .long lc), (3, .long lu), (2, .int bb), (0, .ref b0), (1, .int p1)]) hx hb dX11_bestBoost_92 hl (by decide) rfl (fun ls hl => ?_)
              exact kk true ((Eq.trans (if_pos c5) (rfl)).symm) H locs hP hD hS ls (lv_sub hl [0, 1, 2, 3, 4, 5, 6] rfl)
            · have c5 : ¬ (bb = (-9999 : Int32)) := c5
              refine lv_aload_n hx hb dX11_bestBoost_59 rfl (lv_at hl 4 rfl) ?_
              have hPc : va_P D vwCl (wF [gN b0 b2 b1 x0, gR cL b2 z4]) H := hP.sub [0, 1] rfl
              refine c_Rl (va_runV (As := []) (rest := []) ⟨hx, hb, hml, hown, hts⟩ (m11_unmet l D cI cL cP b0 b1 b2 x0 z4 H) (cwV 0 hts gX11_bestBoost_X11_unmet rfl rfl rfl (by decide +kernel) ⟨Nat.le_of_ble_eq_true rfl, Nat.le_of_ble_eq_true rfl⟩) (preR_V (q := (RX11, TX11, 10)) (q0 := 0) hQ hPc rfl rfl) rfl rfl hl.1 rfl (lv_room (Nat.le_of_ble_eq_true rfl)) dX11_bestBoost_60 ⟨Nat.le_of_ble_eq_true rfl, Nat.le_of_ble_eq_true rfl⟩) hS (fun locs hS => ?_)
              refine lv_lload_n hx hb dX11_bestBoost_63 rfl (lv_at hl 2 rfl) ?_
              refine w_llt (tgt := 87) hx hb dX11_bestBoost_64 dX11_bestBoost_65 (by decide) (fun c6 => ?_) (fun c6 => ?_)
              · have c6 : (F11_unmet z4) < lu := c6
                refine lv_iconst (v := (1 : Int32)) hx hb dX11_bestBoost_87 (by decide) ?_
                refine lv_goto (tgt := 92) hx hb dX11_bestBoost_88 (by decide) ?_
                refine lv_istore (lv' := [(8, .int (1 : Int32)), (7, .int (nI i)), (5, .long lc), (3, .long lu), (2, .int bb), (0, .ref b0), (1, .int p1)]) hx hb dX11_bestBoost_92 hl (by decide) rfl (fun ls hl => ?_)
                exact kk true ((Eq.trans (if_neg c5) (Eq.trans (if_pos c6) (rfl))).symm) H locs hP hD hS ls (lv_sub hl [0, 1, 2, 3, 4, 5, 6] rfl)
              · have c6 : ¬ ((F11_unmet z4) < lu) := c6
                refine lv_aload_n hx hb dX11_bestBoost_68 rfl (lv_at hl 4 rfl) ?_
                have hPc : va_P D vwCl (wF [gN b0 b2 b1 x0, gR cL b2 z4]) H := hP.sub [0, 1] rfl
                refine c_Rl (va_runV (As := []) (rest := []) ⟨hx, hb, hml, hown, hts⟩ (m11_unmet l D cI cL cP b0 b1 b2 x0 z4 H) (cwV 0 hts gX11_bestBoost_X11_unmet rfl rfl rfl (by decide +kernel) ⟨Nat.le_of_ble_eq_true rfl, Nat.le_of_ble_eq_true rfl⟩) (preR_V (q := (RX11, TX11, 10)) (q0 := 0) hQ hPc rfl rfl) rfl rfl hl.1 rfl (lv_room (Nat.le_of_ble_eq_true rfl)) dX11_bestBoost_69 ⟨Nat.le_of_ble_eq_true rfl, Nat.le_of_ble_eq_true rfl⟩) hS (fun locs hS => ?_)
                refine lv_lload_n hx hb dX11_bestBoost_72 rfl (lv_at hl 2 rfl) ?_
                refine w_lne (tgt := 91) hx hb dX11_bestBoost_73 dX11_bestBoost_74 (by decide) (fun c7 => ?_) (fun c7 => ?_)
                · have c7 : ¬ ((F11_unmet z4) = lu) := c7
                  refine lv_iconst (v := (0 : Int32)) hx hb dX11_bestBoost_91 (by decide) ?_
                  refine lv_istore (lv' := [(8, .int (0 : Int32)), (7, .int (nI i)), (5, .long lc), (3, .long lu), (2, .int bb), (0, .ref b0), (1, .int p1)]) hx hb dX11_bestBoost_92 hl (by decide) rfl (fun ls hl => ?_)
                  exact kk false ((Eq.trans (if_neg c5) (Eq.trans (if_neg c6) (Eq.trans (if_neg c7) (rfl)))).symm) H locs hP hD hS ls (lv_sub hl [0, 1, 2, 3, 4, 5, 6] rfl)
                · have c7 : (F11_unmet z4) = lu := c7
                  refine lv_aload_n hx hb dX11_bestBoost_77 rfl (lv_at hl 4 rfl) ?_
                  have hPc : va_P D vwCl (wF [gN b0 b2 b1 x0, gR cL b2 z4]) H := hP.sub [0, 1] rfl
                  refine c_Rl (va_runV (As := []) (rest := []) ⟨hx, hb, hml, hown, hts⟩ (m11_cost l D cI cL cP b0 b1 b2 x0 z4 H) (cwV 0 hts gX11_bestBoost_X11_cost rfl rfl rfl (by decide +kernel) ⟨Nat.le_of_ble_eq_true rfl, Nat.le_of_ble_eq_true rfl⟩) (preR_V (q := (RX11, TX11, 10)) (q0 := 0) hQ hPc rfl rfl) rfl rfl hl.1 rfl (lv_room (Nat.le_of_ble_eq_true rfl)) dX11_bestBoost_78 ⟨Nat.le_of_ble_eq_true rfl, Nat.le_of_ble_eq_true rfl⟩) hS (fun locs hS => ?_)
                  refine lv_lload hx hb dX11_bestBoost_81 (lv_at hl 1 rfl) ?_
                  refine w_lge (tgt := 91) hx hb dX11_bestBoost_83 dX11_bestBoost_84 (by decide) (fun c8 => ?_) (fun c8 => ?_)
                  · have c8 : lc ≤ (F11_cost z4) := c8
                    refine lv_iconst (v := (0 : Int32)) hx hb dX11_bestBoost_91 (by decide) ?_
                    refine lv_istore (lv' := [(8, .int (0 : Int32)), (7, .int (nI i)), (5, .long lc), (3, .long lu), (2, .int bb), (0, .ref b0), (1, .int p1)]) hx hb dX11_bestBoost_92 hl (by decide) rfl (fun ls hl => ?_)
                    exact kk false ((Eq.trans (if_neg c5) (Eq.trans (if_neg c6) (Eq.trans (if_pos c7) (Eq.trans (if_pos c8) (rfl))))).symm) H locs hP hD hS ls (lv_sub hl [0, 1, 2, 3, 4, 5, 6] rfl)
                  · have c8 : ¬ (lc ≤ (F11_cost z4)) := c8
                    refine lv_iconst (v := (1 : Int32)) hx hb dX11_bestBoost_87 (by decide) ?_
                    refine lv_goto (tgt := 92) hx hb dX11_bestBoost_88 (by decide) ?_
                    refine lv_istore (lv' := [(8, .int (1 : Int32)), (7, .int (nI i)), (5, .long lc), (3, .long lu), (2, .int bb), (0, .ref b0), (1, .int p1)]) hx hb dX11_bestBoost_92 hl (by decide) rfl (fun ls hl => ?_)
                    exact kk true ((Eq.trans (if_neg c5) (Eq.trans (if_neg c6) (Eq.trans (if_pos c7) (Eq.trans (if_neg c8) (rfl))))).symm) H locs hP hD hS ls (lv_sub hl [0, 1, 2, 3, 4, 5, 6] rfl)
          intro z9 hz9  H locs hP hD hS ls hl
          refine lv_iload hx hb dX11_bestBoost_94 (lv_at hl 0 rfl) ?_
          refine w_diaI (rest := []) (K := z9 = true) 105 (nI i) bb (fun kt kf => ?_) ?_
          · refine lv_if_eq (tgt := 104) hx hb dX11_bestBoost_96 (by decide) (fun c10 => ?_) (fun c10 => ?_)
            · have c10 : ¬ (z9 = true) := bI_0.mp c10
              refine lv_iload_n hx hb dX11_bestBoost_104 rfl (lv_at hl 4 rfl) ?_
              exact kf c10
            · have c10 : z9 = true := bI_1.mp c10
              refine lv_iload hx hb dX11_bestBoost_99 (lv_at hl 1 rfl) ?_
              refine lv_goto (tgt := 105) hx hb dX11_bestBoost_101 (by decide) ?_
              exact kt c10
          refine lv_istore_n (lv' := [(2, .int (if z9 = true then (nI i) else bb)), (8, .int (bI z9)), (7, .int (nI i)), (5, .long lc), (3, .long lu), (0, .ref b0), (1, .int p1)]) hx hb dX11_bestBoost_105 rfl hl (by decide) rfl (fun ls hl => ?_)
          refine lv_iload hx hb dX11_bestBoost_106 (lv_at hl 1 rfl) ?_
          refine w_diaLS hS (rest := []) (K := z9 = true) 119 (F11_unmet z4) lu (fun kt kf => ?_) (fun locs hS => ?_)
          · refine lv_if_eq (tgt := 118) hx hb dX11_bestBoost_108 (by decide) (fun c11 => ?_) (fun c11 => ?_)
            · have c11 : ¬ (z9 = true) := bI_0.mp c11
              refine lv_lload_n hx hb dX11_bestBoost_118 rfl (lv_at hl 4 rfl) ?_
              exact kf c11 _ hS
            · have c11 : z9 = true := bI_1.mp c11
              refine lv_aload_n hx hb dX11_bestBoost_111 rfl (lv_at hl 5 rfl) ?_
              have hPc : va_P D vwCl (wF [gN b0 b2 b1 x0, gR cL b2 z4]) H := hP.sub [0, 1] rfl
              refine c_Rl (va_runV (As := []) (rest := []) ⟨hx, hb, hml, hown, hts⟩ (m11_unmet l D cI cL cP b0 b1 b2 x0 z4 H) (cwV 0 hts gX11_bestBoost_X11_unmet rfl rfl rfl (by decide +kernel) ⟨Nat.le_of_ble_eq_true rfl, Nat.le_of_ble_eq_true rfl⟩) (preR_V (q := (RX11, TX11, 10)) (q0 := 0) hQ hPc rfl rfl) rfl rfl hl.1 rfl (lv_room (Nat.le_of_ble_eq_true rfl)) dX11_bestBoost_112 ⟨Nat.le_of_ble_eq_true rfl, Nat.le_of_ble_eq_true rfl⟩) hS (fun locs hS => ?_)
              refine lv_goto (tgt := 119) hx hb dX11_bestBoost_115 (by decide) ?_
              exact kt c11 _ hS
          refine lv_lstore_n (lv' := [(3, .long (if z9 = true then (F11_unmet z4) else lu)), (2, .int (if z9 = true then (nI i) else bb)), (8, .int (bI z9)), (7, .int (nI i)), (5, .long lc), (0, .ref b0), (1, .int p1)]) hx hb dX11_bestBoost_119 rfl hl (by decide) rfl (fun ls hl => ?_)
          refine lv_iload hx hb dX11_bestBoost_120 (lv_at hl 2 rfl) ?_
          refine w_diaLS hS (rest := []) (K := z9 = true) 134 (F11_cost z4) lc (fun kt kf => ?_) (fun locs hS => ?_)
          · refine lv_if_eq (tgt := 132) hx hb dX11_bestBoost_122 (by decide) (fun c12 => ?_) (fun c12 => ?_)
            · have c12 : ¬ (z9 = true) := bI_0.mp c12
              refine lv_lload hx hb dX11_bestBoost_132 (lv_at hl 4 rfl) ?_
              exact kf c12 _ hS
            · have c12 : z9 = true := bI_1.mp c12
              refine lv_aload_n hx hb dX11_bestBoost_125 rfl (lv_at hl 5 rfl) ?_
              have hPc : va_P D vwCl (wF [gN b0 b2 b1 x0, gR cL b2 z4]) H := hP.sub [0, 1] rfl
              refine c_Rl (va_runV (As := []) (rest := []) ⟨hx, hb, hml, hown, hts⟩ (m11_cost l D cI cL cP b0 b1 b2 x0 z4 H) (cwV 0 hts gX11_bestBoost_X11_cost rfl rfl rfl (by decide +kernel) ⟨Nat.le_of_ble_eq_true rfl, Nat.le_of_ble_eq_true rfl⟩) (preR_V (q := (RX11, TX11, 10)) (q0 := 0) hQ hPc rfl rfl) rfl rfl hl.1 rfl (lv_room (Nat.le_of_ble_eq_true rfl)) dX11_bestBoost_126 ⟨Nat.le_of_ble_eq_true rfl, Nat.le_of_ble_eq_true rfl⟩) hS (fun locs hS => ?_)
              refine lv_goto (tgt := 134) hx hb dX11_bestBoost_129 (by decide) ?_
              exact kt c12 _ hS
          refine lv_lstore (lv' := [(5, .long (if z9 = true then (F11_cost z4) else lc)), (3, .long (if z9 = true then (F11_unmet z4) else lu)), (2, .int (if z9 = true then (nI i) else bb)), (8, .int (bI z9)), (7, .int (nI i)), (0, .ref b0), (1, .int p1)]) hx hb dX11_bestBoost_134 hl (by decide) rfl (fun ls hl => ?_)
          refine lv_aload_n hx hb dX11_bestBoost_136 rfl (lv_at hl 5 rfl) ?_
          have hPc : va_P D vwCl (wF [gN b0 b2 b1 x0, gR cL b2 z4]) H := w_psub hP [0, 1] rfl
          have hDc : va_D A (wF [gN b0 b2 b1 x0, gR cL b2 z4]) := w_gsub hD [0, 1] rfl rfl
          refine c_Mv (F := F11_comesBack z4) (G1 := (fun w => [gN b0 b2 b1 x0, gR cL b2 w])) (Gr := []) (Gs' := fun z13 => [gN b0 b2 b1 x0, gR cL b2 z13]) (va_runV (As := []) (rest := []) ⟨hx, hb, hml, hown, hts⟩ (m11_comesBack l D cI cL cP b0 b1 b2 x0 z4 H.size) (cwV 0 hts gX11_bestBoost_X11_comesBack rfl rfl rfl (by decide +kernel) ⟨Nat.le_of_ble_eq_true rfl, Nat.le_of_ble_eq_true rfl⟩) (preM_V (q := (RX11, TX11, 10)) (q0 := 0) hQ hPc hDc rfl rfl) rfl rfl hl.1 rfl (lv_room (Nat.le_of_ble_eq_true rfl)) dX11_bestBoost_137 ⟨Nat.le_of_ble_eq_true rfl, Nat.le_of_ble_eq_true rfl⟩) hS hA hP hD [0, 1] [] [0, 1] rfl rfl rfl rfl rfl (fun _ => rfl) (fun z13 H locs hz13 hP hD hS => ?_)
          have hP : va_P D vwCl (wF [gN b0 b2 b1 x0, gR cL b2 z13]) H := hP
          have hD : va_D A (wF [gN b0 b2 b1 x0, gR cL b2 z13]) := hD
          have hcb_z13 : z13 = z2 := by rw [hz13]; exact com_b (fun j hj => by rw [hz2]; exact put_s x1 j hj) (fun j hj => by rw [hz4, mns_o _ _ _ _ (Or.inr hj), w_ro (by omega)])
          refine lv_iinc (v := (nI (i + 10))) (lv' := [(7, .int (nI (i + 10))), (5, .long (if z9 = true then (F11_cost z4) else lc)), (3, .long (if z9 = true then (F11_unmet z4) else lu)), (2, .int (if z9 = true then (nI i) else bb)), (8, .int (bI z9)), (0, .ref b0), (1, .int p1)]) hx hb dX11_bestBoost_140 hl (k := 4) rfl (nI_add i 10) (by decide) rfl (fun ls hl => ?_)
          refine lv_goto (tgt := 30) hx hb dX11_bestBoost_143 (by decide) ?_
          rw [show z13 = z2 from hcb_z13] at hP hD
          have hP : va_P D vwCl (wF [gN b0 b2 b1 x0, gR cL b2 z2]) H := hP
          have hD : va_D A (wF [gN b0 b2 b1 x0, gR cL b2 z2]) := hD
          exact ih (i + 10) (if z9 = true then (nI i) else bb) (if z9 = true then (F11_unmet z4) else lu) (if z9 = true then (F11_cost z4) else lc) (by omega) (by omega) (fun z hz => kk z (hz.trans ((Eq.trans (if_neg c3) (Eq.trans (congrArg (K11_bestBoost_2 x0 x1 p1 i bb lu lc z2 (L11_bestBoost_30 x0 x1 p1 z2 fu)) hz4.symm) (Eq.trans (congrArg (K11_bestBoost_3 x0 x1 p1 i bb lu lc z2 z4 (L11_bestBoost_30 x0 x1 p1 z2 fu)) hz9.symm) (Eq.trans (congrArg (K11_bestBoost_4 x0 x1 p1 i bb lu lc z2 z4 z9 (L11_bestBoost_30 x0 x1 p1 z2 fu)) hz13.symm) (rfl))))).symm))) H locs hP hD hS ls (lv_sub hl [0, 1, 2, 3, 5, 6] rfl)
    have hP : va_P D vwCl (wF [gN b0 b2 b1 x0, gR cL b2 z2]) H := hP
    have hD : va_D A (wF [gN b0 b2 b1 x0, gR cL b2 z2]) := hD
    refine loop30 17 0 (-9999 : Int32) (0 : Int64) (0 : Int64) (by omega) (by omega) (fun z14 hz14 hi_z14 H locs hP hD hS ls hl => ?_) H locs hP hD hS ls (lv_sub hl [0, 1, 2, 3, 4, 5] rfl)
    refine lv_iload_n hx hb dX11_bestBoost_146 rfl (lv_at hl 3 rfl) ?_
    exact W.iret (v := z14.2.1) hx hb hr (fun t ht hW => ⟨⟨z14.2.1, z2, rfl, ((Eq.trans (if_pos c1) (Eq.trans (congrArg (K11_bestBoost_1 x0 x1 p1) hz2.symm) (Eq.trans (congrArg (K11_bestBoost_5 x0 x1 p1 z2) hz14.symm) (rfl)))).symm), by rw [ht]; exact hP, hD⟩, hS.F ht⟩) hS.2.2 dX11_bestBoost_147
  · have c1 : ¬ ((F11_in p1.toInt64 (1 : Int64) (360 : Int64)) = true) := bI_0.mp c1
    refine lv_iconst (v := (-1 : Int32)) hx hb dX11_bestBoost_12 (by decide) ?_
    exact W.iret (v := (-1 : Int32)) hx hb hr (fun t ht hW => ⟨⟨(-1 : Int32), x1, rfl, ((Eq.trans (if_neg c1) (rfl)).symm), by rw [ht]; exact hP, hD⟩, hS.F ht⟩) hS.2.2 dX11_bestBoost_13
def K11_undo_1 (x0 : MoN) (x1 : (Nat → Int64)) (z2 : (Nat → Int64)) : Int32 × MoN × (Nat → Int64) := ((nI (x0.1 - 1)), (((x0.1 - 1), x0.2.1, x0.2.2.1, x0.2.2.2.1, x0.2.2.2.2.1, x0.2.2.2.2.2.1, x0.2.2.2.2.2.2.1, x0.2.2.2.2.2.2.2), z2))
def F11_undo (x0 : MoN) (x1 : (Nat → Int64)) : Int32 × MoN × (Nat → Int64) := (if x0.1 = 0 then ((-2 : Int32), (x0, x1)) else (K11_undo_1 x0 x1 (F11_copies x1 (174 * x0.1) 0)))
set_option maxHeartbeats 4000000 in
set_option maxRecDepth 100000 in
theorem m11_undo (l : Launch) (D : va_G) (cI cL cP : ClassId) (b0 : Nat) (b1 : Nat) (b2 : Nat) (x0 : MoN) (x1 : (Nat → Int64)) (hk : x0.1 ≤ 4) (sz : Nat) : Met l yX11_undo wsX11_undo ({ frames := 1, cells := 0, slots := 0, locals := 23 }) (va_Pc [.ref b0] (pM D cI cL cP sz (wF [gN b0 b2 b1 x0, gR cL b2 x1]))) (va_Qi (fun (r : Int32) (w : MoN × (Nat → Int64)) => (r, w) = F11_undo x0 x1) (qW D (va_A (wF [gN b0 b2 b1 x0, gR cL b2 x1]) sz) (fun w : MoN × (Nat → Int64) => (wF [gN b0 b2 b1 w.1, gR cL b2 w.2]))) (va_A (wF [gN b0 b2 b1 x0, gR cL b2 x1]) sz)) 0 0 (va_A (wF [gN b0 b2 b1 x0, gR cL b2 x1]) sz) := by
  refine Met.ofW (cc := cX11_undo) (maxL := 1) (ret := (some .int)) (by decide) rfl ?_
  intro p e s m args below meth c s₁ B hml hv
  obtain ⟨rfl, hsz, hP, hQ, hD0⟩ := hv
  have hx := B.exec
  have hb := B.bytes
  have hr := B.returns
  have hts := atoms_spec (ws := wsX11_undo) B.pre
  have hown : s.vm.findClass RX11 = some m.cls := findClass_of_methodNamed B.named
  have hlocks := B.notSynchronized
  subst hsz
  have hD := hD0.self (sz := s.heap.size)
  generalize hAe : va_A (wF [gN b0 b2 b1 x0, gR cL b2 x1]) s.heap.size = A at hD ⊢
  have hA : ∀ q : Nat, s.heap.size ≤ q → A q := fun q h => by rw [← hAe]; exact Or.inr h
  have hS : va_S A s.heap s.heap [] := va_S.rf
  have hP : va_P D vwCl (wF [gN b0 b2 b1 x0, gR cL b2 x1]) s.heap := hP
  have hl := lv_entry ([.ref b0]) (n := 1) (Nat.le_of_ble_eq_true rfl)
  rw [lg_entry_eq]
  generalize (lg_sl ([.ref b0]) ++ List.replicate (1 - (lg_sl ([.ref b0])).length) Slot.unset).toArray = ls at hl ⊢
  have hl : lv_has ls 1 [(0, .ref b0)] := hl
  have hinX11 : ∀ w ∈ wsX110, w ∈ wsX11_undo := fun _ h => List.mem_cons_of_mem _ (List.mem_append_right _ h)
  refine lv_aload_n hx hb dX11_undo_0 rfl (lv_at hl 0 rfl) ?_
  refine va_get (D := D) (ci := 11) (v := .int (nI x0.1)) (C := RX11) (T := TX11) (N := 10) hx hb hts hinX11 hown hQ.1 hP 0 rfl rfl 1 (by decide) (hts (.fieldLink RX11 47 "HeatPumpPlantModel" "kept" "I") (List.mem_of_getElem? (i := 1) rfl)) (fun _ h9 => h9) rfl dX11_undo_1 ?_
  refine lv_if_ne (tgt := 10) hx hb dX11_undo_4 (by decide) (fun c1 => ?_) (fun c1 => ?_)
  · have c1 : ¬ (x0.1 = 0) := fun h9 => c1 ((nI_eq (a := x0.1) (b := 0) (by omega) (by omega)).mpr h9)
    refine lv_aload_n hx hb dX11_undo_10 rfl (lv_at hl 0 rfl) ?_
    refine lv_sipush (v := (174 : Int32)) hx hb dX11_undo_11 (by decide) ?_
    refine lv_aload_n hx hb dX11_undo_14 rfl (lv_at hl 0 rfl) ?_
    refine va_get (D := D) (ci := 11) (v := .int (nI x0.1)) (C := RX11) (T := TX11) (N := 10) hx hb hts hinX11 hown hQ.1 hP 0 rfl rfl 1 (by decide) (hts (.fieldLink RX11 47 "HeatPumpPlantModel" "kept" "I") (List.mem_of_getElem? (i := 1) rfl)) (fun _ h9 => h9) rfl dX11_undo_15 ?_
    refine lv_imul hx hb dX11_undo_18 ?_
    refine lv_iconst (v := (0 : Int32)) hx hb dX11_undo_19 (by decide) ?_
    rw [show ((174 : Int32) * (nI x0.1)) = nI (174 * x0.1) from ((congr (congrArg HMul.hMul (show (174 : Int32) = nI 174 from (rfl : (174 : Int32) = nI 174))) (show (nI x0.1) = nI x0.1 from rfl)).trans (pk_mul 174 x0.1))]
    have hPc : va_P D vwCl (wF [gN b0 b2 b1 x0, gR cL b2 x1]) s.heap := w_psub hP [0, 1] rfl
    have hDc : va_D A (wF [gN b0 b2 b1 x0, gR cL b2 x1]) := w_gsub hD [0, 1] rfl rfl
    refine c_Mv (F := F11_copies x1 (174 * x0.1) 0) (G1 := (fun w => [gN b0 b2 b1 x0, gR cL b2 w])) (Gr := []) (Gs' := fun z2 => [gN b0 b2 b1 x0, gR cL b2 z2]) (va_runV (As := [.int (nI (174 * x0.1)), .int (nI 0)]) (rest := []) ⟨hx, hb, hml, hown, hts⟩ (m11_copies l D cI cL cP b0 b1 b2 x0 x1 (174 * x0.1) 0 (by omega) (by omega) (by omega) s.heap.size) (cwV 2 hts gX11_undo_X11_copies rfl rfl rfl (by decide +kernel) ⟨Nat.le_of_ble_eq_true rfl, Nat.le_of_ble_eq_true rfl⟩) (preM_V (q := (RX11, TX11, 10)) (q0 := 0) hQ hPc hDc rfl rfl) rfl rfl hl.1 rfl (lv_room (Nat.le_of_ble_eq_true rfl)) dX11_undo_20 ⟨Nat.le_of_ble_eq_true rfl, Nat.le_of_ble_eq_true rfl⟩) hS hA hP hD [0, 1] [] [0, 1] rfl rfl rfl rfl rfl (fun _ => rfl) (fun z2 H locs hz2 hP hD hS => ?_)
    have hP : va_P D vwCl (wF [gN b0 b2 b1 x0, gR cL b2 z2]) H := hP
    have hD : va_D A (wF [gN b0 b2 b1 x0, gR cL b2 z2]) := hD
    refine lv_aload_n hx hb dX11_undo_23 rfl (lv_at hl 0 rfl) ?_
    refine lv_dup hx hb dX11_undo_24 rfl ?_
    refine va_get (D := D) (ci := 11) (v := .int (nI x0.1)) (C := RX11) (T := TX11) (N := 10) hx hb hts hinX11 hown hQ.1 hP 0 rfl rfl 1 (by decide) (hts (.fieldLink RX11 47 "HeatPumpPlantModel" "kept" "I") (List.mem_of_getElem? (i := 1) rfl)) (fun _ h9 => h9) rfl dX11_undo_25 ?_
    refine lv_iconst (v := (1 : Int32)) hx hb dX11_undo_28 (by decide) ?_
    refine lv_isub hx hb dX11_undo_29 ?_
    refine va_put (D := D) (ci := 11) (v := .int ((nI x0.1) - (1 : Int32))) (ty := .int) (C := RX11) (T := TX11) (N := 10) hx hb hts hinX11 tyX11 tyX11_ok nmX11 hown hQ.1 hP hD hS 0 rfl rfl 1 (by decide) (hts (.fieldLink RX11 47 "HeatPumpPlantModel" "kept" "I") (List.mem_of_getElem? (i := 1) rfl)) (fun _ h9 => h9) rfl (by decide +kernel) rfl rfl (Nat.le_of_ble_eq_true rfl) dX11_undo_30 (fun H locs hP hD hS => ?_)
    rw [show ((nI x0.1) - (1 : Int32)) = nI (x0.1 - 1) from (pk_sub (a := x0.1) (b := 1) (by omega))] at hP hD
    have hP : va_P D vwCl (wF [gN b0 b2 b1 ((x0.1 - 1), x0.2.1, x0.2.2.1, x0.2.2.2.1, x0.2.2.2.2.1, x0.2.2.2.2.2.1, x0.2.2.2.2.2.2.1, x0.2.2.2.2.2.2.2), gR cL b2 z2]) H := hP
    have hD : va_D A (wF [gN b0 b2 b1 ((x0.1 - 1), x0.2.1, x0.2.2.1, x0.2.2.2.1, x0.2.2.2.2.1, x0.2.2.2.2.2.1, x0.2.2.2.2.2.2.1, x0.2.2.2.2.2.2.2), gR cL b2 z2]) := hD
    refine lv_aload_n hx hb dX11_undo_33 rfl (lv_at hl 0 rfl) ?_
    refine va_get (D := D) (ci := 11) (v := .int (nI (x0.1 - 1))) (C := RX11) (T := TX11) (N := 10) hx hb hts hinX11 hown hQ.1 hP 0 rfl rfl 1 (by decide) (hts (.fieldLink RX11 47 "HeatPumpPlantModel" "kept" "I") (List.mem_of_getElem? (i := 1) rfl)) (fun _ h9 => h9) rfl dX11_undo_34 ?_
    exact W.iret (v := (nI (x0.1 - 1))) hx hb hr (fun t ht hW => ⟨⟨(nI (x0.1 - 1)), (((x0.1 - 1), x0.2.1, x0.2.2.1, x0.2.2.2.1, x0.2.2.2.2.1, x0.2.2.2.2.2.1, x0.2.2.2.2.2.2.1, x0.2.2.2.2.2.2.2), z2), rfl, ((Eq.trans (if_neg c1) (Eq.trans (congrArg (K11_undo_1 x0 x1) hz2.symm) (rfl))).symm), by rw [ht]; exact hP, hD⟩, hS.F ht⟩) hS.2.2 dX11_undo_37
  · have c1 : x0.1 = 0 := (nI_eq (a := x0.1) (b := 0) (by omega) (by omega)).mp c1
    refine lv_bipush (v := (-2 : Int32)) hx hb dX11_undo_7 (by decide) ?_
    exact W.iret (v := (-2 : Int32)) hx hb hr (fun t ht hW => ⟨⟨(-2 : Int32), (x0, x1), rfl, ((Eq.trans (if_pos c1) (rfl)).symm), by rw [ht]; exact hP, hD⟩, hS.F ht⟩) hS.2.2 dX11_undo_9
