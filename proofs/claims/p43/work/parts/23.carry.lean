/-! hours read by the class -/
theorem rdg_b (x : ST) {p : Int32} (h0 : -1 ≤ p.toInt) : -1 ≤ (F9_readDigit x p).1.toInt ∧ (F9_readDigit x p).1.toInt ≤ p.toInt := by
  unfold F9_readDigit
  have e1 : (-1 : Int32).toInt = -1 := by decide
  split
  · exact ⟨Int.le_of_eq e1.symm, Int.le_trans (Int.le_of_eq e1) h0⟩
  · rename_i c
    split
    · rename_i c2
      have h1 := Int32.le_iff_toInt_le.mp c2
      have h2 := Int32.le_iff_toInt_le.mp (Int32.not_lt.mp c)
      rw [show (0 : Int32).toInt = 0 from by decide] at h2
      exact ⟨by show -1 ≤ (F9_codeHere x - (48 : Int32)).toInt; omega, h1⟩
    · exact ⟨Int.le_of_eq e1.symm, Int.le_trans (Int.le_of_eq e1) h0⟩
theorem w_ten1 {n p : Int32} (h0 : 0 ≤ n.toInt) (h9 : n.toInt ≤ 9) (h1 : 0 ≤ p.toInt) (h2 : p.toInt ≤ 9) : (((10 : Int32) * n) + p).toInt = 10 * n.toInt + p.toInt := by
  rw [Int32.toInt_add, Int32.toInt_mul, show (10 : Int32).toInt = 10 from by decide, w_bm (x := 10 * n.toInt) (by omega) (by omega), w_bm (by omega) (by omega)]
theorem w_0le {n : Int32} (h : (0 : Int32) ≤ n) : 0 ≤ n.toInt := Int32.le_iff_toInt_le.mp h
theorem rhr_b (x : ST) : (F9_readHour x).1.toInt ≤ 23 := by
  unfold F9_readHour K9_readHour_1
  have h1 := rdg_b x (p := 9) (by decide)
  rw [show (9 : Int32).toInt = 9 from by decide] at h1
  generalize F9_readDigit x 9 = z at h1
  by_cases c1 : z.1 = 1
  · have e1 : z.1.toInt = 1 := by rw [c1]; decide
    rw [if_pos c1, if_pos c1]
    have h2 := rdg_b z.2 (p := 9) (by decide)
    rw [show (9 : Int32).toInt = 9 from by decide] at h2
    generalize F9_readDigit z.2 9 = y at h2
    unfold K9_readHour_2
    split
    · rename_i c2
      show (((10 : Int32) * z.1) + y.1).toInt ≤ 23
      rw [w_ten1 (by omega) (by omega) (w_0le c2) (by omega)]
      omega
    · show z.1.toInt ≤ 23
      omega
  · rw [if_neg c1]
    by_cases c2 : z.1 = 2
    · have e1 : z.1.toInt = 2 := by rw [c2]; decide
      rw [if_pos c2, if_neg c1]
      have h2 := rdg_b z.2 (p := 3) (by decide)
      rw [show (3 : Int32).toInt = 3 from by decide] at h2
      generalize F9_readDigit z.2 3 = y at h2
      unfold K9_readHour_3
      split
      · rename_i c3
        show (((10 : Int32) * z.1) + y.1).toInt ≤ 23
        rw [w_ten1 (by omega) (by omega) (w_0le c3) (by omega)]
        omega
      · show z.1.toInt ≤ 23
        omega
    · rw [if_neg c2]
      show z.1.toInt ≤ 23
      omega
/-- the last hour stays -/
def sL (x y : ST) : Prop := y.2.2.2.2.1 = x.2.2.2.2.1
theorem acc_l (x : ST) (p : Int32) : sL x (F9_accept x p).2 := by
  unfold F9_accept
  split
  · rfl
  · rfl
theorem rdg_l (x : ST) (p : Int32) : sL x (F9_readDigit x p).2 := by
  unfold F9_readDigit
  split
  · rfl
  · split
    · rfl
    · rfl
theorem rnm_l (x : ST) : sL x (F9_readNumber x).2 := by
  unfold F9_readNumber K9_readNumber_1
  have h1 := rdg_l x 9
  generalize F9_readDigit x 9 = z at h1
  split
  · unfold K9_readNumber_2
    have h2 := rdg_l z.2 9
    generalize F9_readDigit z.2 9 = y at h2
    split
    · unfold K9_readNumber_3
      have h3 := rdg_l y.2 9
      generalize F9_readDigit y.2 9 = v at h3
      split
      · exact h3.trans (h2.trans h1)
      · exact h3.trans (h2.trans h1)
    · exact h2.trans h1
  · exact h1
theorem rtf_l (x : ST) : sL x (F9_readTariff x).2 := by
  unfold F9_readTariff K9_readTariff_1
  have h1 := acc_l x 99
  generalize F9_accept x 99 = z at h1
  split
  · exact h1
  · unfold K9_readTariff_2
    have h2 := acc_l z.2 110
    generalize F9_accept z.2 110 = y at h2
    split
    · exact h2.trans h1
    · unfold K9_readTariff_3
      have h3 := acc_l y.2 112
      generalize F9_accept y.2 112 = v at h3
      split
      · exact h3.trans (h2.trans h1)
      · exact h3.trans (h2.trans h1)
theorem re_last {x : ST} : (F9_readEntry x).1 = true → (F9_readEntry x).2.2.2.2.2.1.toInt ≤ 23 := by
  unfold F9_readEntry K9_readEntry_1
  have hb := rhr_b x
  generalize F9_readHour x = z at hb
  split
  · have h1 := acc_l (z.2.1, z.2.2.1, z.2.2.2.1, z.1, z.1, z.2.2.2.2.2.2.1, z.2.2.2.2.2.2.2) 45
    generalize F9_accept (z.2.1, z.2.2.1, z.2.2.2.1, z.1, z.1, z.2.2.2.2.2.2.1, z.2.2.2.2.2.2.2) 45 = y at h1
    unfold K9_readEntry_2
    split
    · have hb2 := rhr_b y.2
      generalize F9_readHour y.2 = v at hb2
      unfold K9_readEntry_8
      split
      · intro h; cases h
      · unfold K9_readEntry_9
        have h3 := acc_l (v.2.1, v.2.2.1, v.2.2.2.1, v.2.2.2.2.1, v.1, v.2.2.2.2.2.2.1, v.2.2.2.2.2.2.2) 58
        generalize F9_accept (v.2.1, v.2.2.1, v.2.2.2.1, v.2.2.2.2.1, v.1, v.2.2.2.2.2.2.1, v.2.2.2.2.2.2.2) 58 = u at h3
        split
        · unfold K9_readEntry_10
          have h4 := acc_l u.2 45
          generalize F9_accept u.2 45 = t at h4
          unfold K9_readEntry_11
          have h5 := rnm_l t.2
          generalize F9_readNumber t.2 = q at h5
          split
          · unfold K9_readEntry_12
            have h6 := rtf_l (q.2.1, q.2.2.1, q.2.2.2.1, q.2.2.2.2.1, q.2.2.2.2.2.1, (if t.1 = true then (-q.1) else q.1), q.2.2.2.2.2.2.2)
            generalize F9_readTariff (q.2.1, q.2.2.1, q.2.2.2.1, q.2.2.2.2.1, q.2.2.2.2.2.1, (if t.1 = true then (-q.1) else q.1), q.2.2.2.2.2.2.2) = w at h6
            unfold K9_readEntry_13
            intro _
            have h7 := acc_l (w.2.1, w.2.2.1, w.2.2.2.1, w.2.2.2.2.1, w.2.2.2.2.2.1, w.2.2.2.2.2.2.1, w.1) 59
            have e := h7.trans (h6.trans (h5.trans (h4.trans h3)))
            exact Int.le_trans (Int.le_of_eq (congrArg Int32.toInt e)) hb2
          · intro h; cases h
        · intro h; cases h
    · split
      · intro h; cases h
      · unfold K9_readEntry_3
        have h3 := acc_l y.2 58
        generalize F9_accept y.2 58 = u at h3
        split
        · unfold K9_readEntry_4
          have h4 := acc_l u.2 45
          generalize F9_accept u.2 45 = t at h4
          unfold K9_readEntry_5
          have h5 := rnm_l t.2
          generalize F9_readNumber t.2 = q at h5
          split
          · unfold K9_readEntry_6
            have h6 := rtf_l (q.2.1, q.2.2.1, q.2.2.2.1, q.2.2.2.2.1, q.2.2.2.2.2.1, (if t.1 = true then (-q.1) else q.1), q.2.2.2.2.2.2.2)
            generalize F9_readTariff (q.2.1, q.2.2.1, q.2.2.2.1, q.2.2.2.2.1, q.2.2.2.2.2.1, (if t.1 = true then (-q.1) else q.1), q.2.2.2.2.2.2.2) = w at h6
            unfold K9_readEntry_7
            intro _
            have h7 := acc_l (w.2.1, w.2.2.1, w.2.2.2.1, w.2.2.2.2.1, w.2.2.2.2.2.1, w.2.2.2.2.2.2.1, w.1) 59
            have e := h7.trans (h6.trans (h5.trans (h4.trans (h3.trans h1))))
            exact Int.le_trans (Int.le_of_eq (congrArg Int32.toInt e)) hb
          · intro h; cases h
        · intro h; cases h
  · intro h; cases h
theorem w_h23 {h l : Int32} {k : Nat} (c : ¬ l < h) (hl : l.toInt ≤ 23) (hm : (24 - h.toInt).toNat < k + 1) : (24 - (h + (1 : Int32)).toInt).toNat < k := by
  have h1 := Int32.le_iff_toInt_le.mp (Int32.not_lt.mp c)
  rw [w_p1 (i := h) (p := 24) (by rw [Int32.lt_iff_toInt_lt, show (24 : Int32).toInt = 24 from by decide]; omega)]
  omega
def K9_carryOut_3 (x0 : ST) (x1 : SW) (i : Nat) (x : ST) (v : SW) (h : Int32) (oo : SS) (tt : SS) (z3 : Bool × ST) (z6 : SS) (rec36 : Int32 → SS → SS → Int32 × SS × SS) (z8 : SS) : Int32 × SS × SS := (rec36 (h + (1 : Int32)) z6 z8)
def K9_carryOut_2 (x0 : ST) (x1 : SW) (i : Nat) (x : ST) (v : SW) (h : Int32) (oo : SS) (tt : SS) (z3 : Bool × ST) (rec36 : Int32 → SS → SS → Int32 × SS × SS) (z6 : SS) : Int32 × SS × SS := (if z3.2.2.2.2.2.2.2 = (-1 : Int32) then (rec36 (h + (1 : Int32)) z6 tt) else (K9_carryOut_3 x0 x1 i x v h oo tt z3 z6 rec36 (F10_replace 24 tt h z3.2.2.2.2.2.2.2)))
def L9_carryOut_36 (x0 : ST) (x1 : SW) (z3 : Bool × ST) (i : Nat) (x : ST) (v : SW) : Nat → Int32 → SS → SS → Int32 × SS × SS
  | 0, _, _, _ => default
  | fu + 1, h, oo, tt => (if z3.2.2.2.2.2.1 < h then (h, oo, tt) else (K9_carryOut_2 x0 x1 i x v h oo tt z3 (L9_carryOut_36 x0 x1 z3 i x v fu) (F10_replace 24 oo h z3.2.2.2.2.2.2.1)))
def K9_carryOut_4 (x0 : ST) (x1 : SW) (i : Nat) (x : ST) (v : SW) (z3 : Bool × ST) (rec7 : Nat → ST → SW → Nat × ST × SW) (z9 : Int32 × SS × SS) : Nat × ST × SW := (rec7 (i + 1) z3.2 (z9.2.1, z9.2.2, v.2.2))
def K9_carryOut_1 (x0 : ST) (x1 : SW) (i : Nat) (x : ST) (v : SW) (rec7 : Nat → ST → SW → Nat × ST × SW) (z3 : Bool × ST) : Nat × ST × SW := (if z3.1 = true then (K9_carryOut_4 x0 x1 i x v z3 rec7 (L9_carryOut_36 x0 x1 z3 i x v ((24 - z3.2.2.2.2.1.toInt).toNat + 1) z3.2.2.2.2.1 v.1 v.2.1)) else (i, z3.2, v))
def L9_carryOut_7 (x0 : ST) (x1 : SW) : Nat → Nat → ST → SW → Nat × ST × SW
  | 0, _, _, _ => default
  | fu + 1, i, x, v => (if 100 ≤ i then (i, x, v) else (if x.2.1 ≤ x.2.2.1 then (i, x, v) else (K9_carryOut_1 x0 x1 i x v (L9_carryOut_7 x0 x1 fu) (F9_readEntry x))))
def K9_carryOut_5 (x0 : ST) (x1 : SW) (z10 : Nat × ST × SW) : ST × SW := (z10.2.1, z10.2.2)
def F9_carryOut (x0 : ST) (x1 : SW) : ST × SW := (K9_carryOut_5 x0 x1 (L9_carryOut_7 x0 x1 101 0 (x0.1, x0.2.1, (0 : Int32), x0.2.2.2.1, x0.2.2.2.2.1, x0.2.2.2.2.2.1, x0.2.2.2.2.2.2) x1))
set_option maxHeartbeats 4000000 in
set_option maxRecDepth 100000 in
theorem m9_carryOut (l : Launch) (D : va_G) (cI cL cP : ClassId) (b0 : Nat) (b1 : Nat) (b2 : Nat) (b3 : Nat) (b4 : Nat) (b5 : Nat) (x0 : ST) (x1 : SW) (sz : Nat) : Met l yX9_carryOut wsX9_carryOut ({ frames := 5, cells := 0, slots := 0, locals := 109 }) (va_Pc [.ref b0, .ref b2] (pM D cI cL cP sz (wF [gT cI b0 b1 x0, gWe cI b2 b3 b4 b5 x1]))) (va_Qv (fun (w : ST × SW) => w = F9_carryOut x0 x1) (qW D (va_A (wF [gT cI b0 b1 x0, gWe cI b2 b3 b4 b5 x1]) sz) (fun w : ST × SW => (wF [gT cI b0 b1 w.1, gWe cI b2 b3 b4 b5 w.2]))) (va_A (wF [gT cI b0 b1 x0, gWe cI b2 b3 b4 b5 x1]) sz)) 0 0 (va_A (wF [gT cI b0 b1 x0, gWe cI b2 b3 b4 b5 x1]) sz) := by
  refine Met.ofW (cc := cX9_carryOut) (maxL := 4) (ret := none) (by decide) rfl ?_
  intro p e s m args below meth c s₁ B hml hv
  obtain ⟨rfl, hsz, hP, hQ, hD0⟩ := hv
  have hx := B.exec
  have hb := B.bytes
  have hr := B.returns
  have hts := atoms_spec (ws := wsX9_carryOut) B.pre
  have hown : s.vm.findClass RX9 = some m.cls := findClass_of_methodNamed B.named
  have hlocks := B.notSynchronized
  subst hsz
  have hD := hD0.self (sz := s.heap.size)
  generalize hAe : va_A (wF [gT cI b0 b1 x0, gWe cI b2 b3 b4 b5 x1]) s.heap.size = A at hD ⊢
  have hA : ∀ q : Nat, s.heap.size ≤ q → A q := fun q h => by rw [← hAe]; exact Or.inr h
  have hS : va_S A s.heap s.heap [] := va_S.rf
  have hP : va_P D vwCl (wF [gT cI b0 b1 x0, gWe cI b2 b3 b4 b5 x1]) s.heap := hP
  have hl := lv_entry ([.ref b0, .ref b2]) (n := 4) (Nat.le_of_ble_eq_true rfl)
  rw [lg_entry_eq]
  generalize (lg_sl ([.ref b0, .ref b2]) ++ List.replicate (4 - (lg_sl ([.ref b0, .ref b2])).length) Slot.unset).toArray = ls at hl ⊢
  have hl : lv_has ls 4 [(0, .ref b0), (1, .ref b2)] := hl
  have hinX8 : ∀ w ∈ wsX80, w ∈ wsX9_carryOut := fun _ h => List.mem_cons_of_mem _ (List.mem_append_right _ h)
  have hinX9 : ∀ w ∈ wsX90, w ∈ wsX9_carryOut := fun _ h => List.mem_cons_of_mem _ (List.mem_append_left _ (List.mem_append_right _ h))
  refine lv_aload_n hx hb dX9_carryOut_0 rfl (lv_at hl 0 rfl) ?_
  refine lv_iconst (v := (0 : Int32)) hx hb dX9_carryOut_1 (by decide) ?_
  refine va_put (D := D) (ci := 9) (v := .int (0 : Int32)) (ty := .int) (C := RX9) (T := TX9) (N := 7) hx hb hts hinX9 tyX9 tyX9_ok nmX9 hown hQ.1 hP hD hS 0 rfl rfl 2 (by decide) (hts (.fieldLink RX9 23 "HeatPumpPlant$WeatherSheet" "position" "I") (List.mem_of_getElem? (i := 1) rfl)) (fun _ h9 => h9) rfl (by decide +kernel) rfl rfl (Nat.le_of_ble_eq_true rfl) dX9_carryOut_2 (fun H locs hP hD hS => ?_)
  have hP : va_P D vwCl (wF [gT cI b0 b1 (x0.1, x0.2.1, (0 : Int32), x0.2.2.2.1, x0.2.2.2.2.1, x0.2.2.2.2.2.1, x0.2.2.2.2.2.2), gWe cI b2 b3 b4 b5 x1]) H := hP
  have hD : va_D A (wF [gT cI b0 b1 (x0.1, x0.2.1, (0 : Int32), x0.2.2.2.1, x0.2.2.2.2.1, x0.2.2.2.2.2.1, x0.2.2.2.2.2.2), gWe cI b2 b3 b4 b5 x1]) := hD
  refine lv_iconst (v := (0 : Int32)) hx hb dX9_carryOut_5 (by decide) ?_
  refine lv_istore_n (lv' := [(2, .int (0 : Int32)), (0, .ref b0), (1, .ref b2)]) hx hb dX9_carryOut_6 rfl hl (by decide) rfl (fun ls hl => ?_)
  have loop7 : ∀ (fu : Nat) (i : Nat) (x : ST) (v : SW) (hi : i ≤ 100) (hm : 100 - i < fu) (kk : ∀ z : Nat × ST × SW, z = L9_carryOut_7 x0 x1 fu i x v → ((z.1) ≤ 100) → ∀ (H : Heap) (locs : List Loc) (_ : va_P D vwCl (wF [gT cI b0 b1 z.2.1, gWe cI b2 b3 b4 b5 z.2.2]) H) (_ : va_D A (wF [gT cI b0 b1 z.2.1, gWe cI b2 b3 b4 b5 z.2.2])) (_ : va_S A s.heap H locs) (ls : Array Slot) (_ : lv_has ls 4 [(2, .int (nI z.1)), (0, .ref b0), (1, .ref b2)]), W p l e (headSpec wsX9_carryOut ({ frames := 5, cells := 0, slots := 0, locals := 109 })).room s m #[.ref b0, .ref b2] below meth c H locs 0 0 (MQ below (va_Qv (fun (w : ST × SW) => w = F9_carryOut x0 x1) (qW D A (fun w : ST × SW => (wF [gT cI b0 b1 w.1, gWe cI b2 b3 b4 b5 w.2]))) A) #[.ref b0, .ref b2] s 0 0 A) (F0 m 88 ls [])), ∀ (H : Heap) (locs : List Loc) (_ : va_P D vwCl (wF [gT cI b0 b1 x, gWe cI b2 b3 b4 b5 v]) H) (_ : va_D A (wF [gT cI b0 b1 x, gWe cI b2 b3 b4 b5 v])) (_ : va_S A s.heap H locs) (ls : Array Slot) (_ : lv_has ls 4 [(2, .int (nI i)), (0, .ref b0), (1, .ref b2)]), W p l e (headSpec wsX9_carryOut ({ frames := 5, cells := 0, slots := 0, locals := 109 })).room s m #[.ref b0, .ref b2] below meth c H locs 0 0 (MQ below (va_Qv (fun (w : ST × SW) => w = F9_carryOut x0 x1) (qW D A (fun w : ST × SW => (wF [gT cI b0 b1 w.1, gWe cI b2 b3 b4 b5 w.2]))) A) #[.ref b0, .ref b2] s 0 0 A) (F0 m 7 ls []) := by
    intro fu
    induction fu with
    | zero => intro i x v hi hm; exact absurd hm (by omega)
    | succ fu ih =>
      intro i x v hi hm kk H locs hP hD hS ls hl
      refine lv_iload_n hx hb dX9_carryOut_7 rfl (lv_at hl 0 rfl) ?_
      refine lv_bipush (v := (100 : Int32)) hx hb dX9_carryOut_8 (by decide) ?_
      refine lv_icmp_ge (tgt := 88) hx hb dX9_carryOut_10 (by decide) (fun c1 => ?_) (fun c1 => ?_)
      · have c1 : 100 ≤ i := (nI_leI (a := 100) (b := i) (by omega) (by omega)).mp c1
        exact kk (i, x, v) ((Eq.trans (if_pos c1) (rfl)).symm) hi H locs hP hD hS ls (lv_sub hl [0, 1, 2] rfl)
      · have c1 : ¬ (100 ≤ i) := fun h9 => c1 ((nI_leI (a := 100) (b := i) (by omega) (by omega)).mpr h9)
        refine lv_aload_n hx hb dX9_carryOut_13 rfl (lv_at hl 1 rfl) ?_
        refine va_get (D := D) (ci := 9) (v := .int x.2.2.1) (C := RX9) (T := TX9) (N := 7) hx hb hts hinX9 hown hQ.1 hP 0 rfl rfl 2 (by decide) (hts (.fieldLink RX9 23 "HeatPumpPlant$WeatherSheet" "position" "I") (List.mem_of_getElem? (i := 1) rfl)) (fun _ h9 => h9) rfl dX9_carryOut_14 ?_
        refine lv_aload_n hx hb dX9_carryOut_17 rfl (lv_at hl 1 rfl) ?_
        refine va_get (D := D) (ci := 9) (v := .int x.2.1) (C := RX9) (T := TX9) (N := 7) hx hb hts hinX9 hown hQ.1 hP 0 rfl rfl 1 (by decide) (hts (.fieldLink RX9 15 "HeatPumpPlant$WeatherSheet" "length" "I") (List.mem_of_getElem? (i := 2) rfl)) (fun _ h9 => h9) rfl dX9_carryOut_18 ?_
        refine lv_icmp_ge (tgt := 88) hx hb dX9_carryOut_21 (by decide) (fun c2 => ?_) (fun c2 => ?_)
        · have c2 : x.2.1 ≤ x.2.2.1 := c2
          exact kk (i, x, v) ((Eq.trans (if_neg c1) (Eq.trans (if_pos c2) (rfl))).symm) hi H locs hP hD hS ls (lv_sub hl [0, 1, 2] rfl)
        · have c2 : ¬ (x.2.1 ≤ x.2.2.1) := c2
          refine lv_aload_n hx hb dX9_carryOut_24 rfl (lv_at hl 1 rfl) ?_
          have hPc : va_P D vwCl (wF [gT cI b0 b1 x]) H := w_psub hP [0] rfl
          have hDc : va_D A (wF [gT cI b0 b1 x]) := w_gsub hD [0] rfl rfl
          refine c_Mz (F := F9_readEntry x) (G1 := (fun w => [gT cI b0 b1 w])) (Gr := [gWe cI b2 b3 b4 b5 v]) (Gs' := fun z3 => [gT cI b0 b1 z3.2, gWe cI b2 b3 b4 b5 v]) (va_runV (As := []) (rest := []) ⟨hx, hb, hml, hown, hts⟩ (m9_readEntry l D cI cL cP b0 b1 x H.size) (cwV 0 hts gX9_carryOut_X9_readEntry rfl rfl rfl (by decide +kernel) ⟨Nat.le_of_ble_eq_true rfl, Nat.le_of_ble_eq_true rfl⟩) (preM_V (q := (RX9, TX9, 7)) (q0 := 0) hQ hPc hDc rfl rfl) rfl rfl hl.1 rfl (lv_room (Nat.le_of_ble_eq_true rfl)) dX9_carryOut_25 ⟨Nat.le_of_ble_eq_true rfl, Nat.le_of_ble_eq_true rfl⟩) hS hA hP hD [0] [1] [0, 1] rfl rfl rfl rfl rfl (fun _ => rfl) (fun z3 H locs hz3 hP hD hS => ?_)
          have hP : va_P D vwCl (wF [gT cI b0 b1 z3.2, gWe cI b2 b3 b4 b5 v]) H := hP
          have hD : va_D A (wF [gT cI b0 b1 z3.2, gWe cI b2 b3 b4 b5 v]) := hD
          refine lv_if_eq (tgt := 88) hx hb dX9_carryOut_28 (by decide) (fun c4 => ?_) (fun c4 => ?_)
          · have c4 : ¬ (z3.1 = true) := bI_0.mp c4
            exact kk (i, z3.2, v) ((Eq.trans (if_neg c1) (Eq.trans (if_neg c2) (Eq.trans (congrArg (K9_carryOut_1 x0 x1 i x v (L9_carryOut_7 x0 x1 fu)) hz3.symm) (Eq.trans (if_neg c4) (rfl))))).symm) hi H locs hP hD hS ls (lv_sub hl [0, 1, 2] rfl)
          · have c4 : z3.1 = true := bI_1.mp c4
            have hl9 : z3.2.2.2.2.2.1.toInt ≤ 23 := by rw [hz3]; rw [hz3] at c4; exact re_last c4
            refine lv_aload_n hx hb dX9_carryOut_31 rfl (lv_at hl 1 rfl) ?_
            refine va_get (D := D) (ci := 9) (v := .int z3.2.2.2.2.1) (C := RX9) (T := TX9) (N := 7) hx hb hts hinX9 hown hQ.1 hP 0 rfl rfl 3 (by decide) (hts (.fieldLink RX9 39 "HeatPumpPlant$WeatherSheet" "firstHour" "I") (List.mem_of_getElem? (i := 3) rfl)) (fun _ h9 => h9) rfl dX9_carryOut_32 ?_
            refine lv_istore_n (lv' := [(3, .int z3.2.2.2.2.1), (2, .int (nI i)), (0, .ref b0), (1, .ref b2)]) hx hb dX9_carryOut_35 rfl hl (by decide) rfl (fun ls hl => ?_)
            have loop36 : ∀ (fu : Nat) (h : Int32) (oo : SS) (tt : SS) (hm : (24 - h.toInt).toNat < fu) (kk : ∀ z : Int32 × SS × SS, z = L9_carryOut_36 x0 x1 z3 i x v fu h oo tt → ∀ (H : Heap) (locs : List Loc) (_ : va_P D vwCl (wF [gT cI b0 b1 z3.2, gWe cI b2 b3 b4 b5 (z.2.1, z.2.2, v.2.2)]) H) (_ : va_D A (wF [gT cI b0 b1 z3.2, gWe cI b2 b3 b4 b5 (z.2.1, z.2.2, v.2.2)])) (_ : va_S A s.heap H locs) (ls : Array Slot) (_ : lv_has ls 4 [(3, .int z.1), (2, .int (nI i)), (0, .ref b0), (1, .ref b2)]), W p l e (headSpec wsX9_carryOut ({ frames := 5, cells := 0, slots := 0, locals := 109 })).room s m #[.ref b0, .ref b2] below meth c H locs 0 0 (MQ below (va_Qv (fun (w : ST × SW) => w = F9_carryOut x0 x1) (qW D A (fun w : ST × SW => (wF [gT cI b0 b1 w.1, gWe cI b2 b3 b4 b5 w.2]))) A) #[.ref b0, .ref b2] s 0 0 A) (F0 m 82 ls [])), ∀ (H : Heap) (locs : List Loc) (_ : va_P D vwCl (wF [gT cI b0 b1 z3.2, gWe cI b2 b3 b4 b5 (oo, tt, v.2.2)]) H) (_ : va_D A (wF [gT cI b0 b1 z3.2, gWe cI b2 b3 b4 b5 (oo, tt, v.2.2)])) (_ : va_S A s.heap H locs) (ls : Array Slot) (_ : lv_has ls 4 [(3, .int h), (2, .int (nI i)), (0, .ref b0), (1, .ref b2)]), W p l e (headSpec wsX9_carryOut ({ frames := 5, cells := 0, slots := 0, locals := 109 })).room s m #[.ref b0, .ref b2] below meth c H locs 0 0 (MQ below (va_Qv (fun (w : ST × SW) => w = F9_carryOut x0 x1) (qW D A (fun w : ST × SW => (wF [gT cI b0 b1 w.1, gWe cI b2 b3 b4 b5 w.2]))) A) #[.ref b0, .ref b2] s 0 0 A) (F0 m 36 ls []) := by
              intro fu
              induction fu with
              | zero => intro h oo tt  hm; exact absurd hm (by omega)
              | succ fu ih =>
                intro h oo tt  hm kk H locs hP hD hS ls hl
                refine lv_iload_n hx hb dX9_carryOut_36 rfl (lv_at hl 0 rfl) ?_
                refine lv_aload_n hx hb dX9_carryOut_37 rfl (lv_at hl 2 rfl) ?_
                refine va_get (D := D) (ci := 9) (v := .int z3.2.2.2.2.2.1) (C := RX9) (T := TX9) (N := 7) hx hb hts hinX9 hown hQ.1 hP 0 rfl rfl 4 (by decide) (hts (.fieldLink RX9 42 "HeatPumpPlant$WeatherSheet" "lastHour" "I") (List.mem_of_getElem? (i := 4) rfl)) (fun _ h9 => h9) rfl dX9_carryOut_38 ?_
                refine lv_icmp_gt (tgt := 82) hx hb dX9_carryOut_41 (by decide) (fun c5 => ?_) (fun c5 => ?_)
                · have c5 : z3.2.2.2.2.2.1 < h := c5
                  exact kk (h, oo, tt) ((Eq.trans (if_pos c5) (rfl)).symm) H locs hP hD hS ls (lv_sub hl [0, 1, 2, 3] rfl)
                · have c5 : ¬ (z3.2.2.2.2.2.1 < h) := c5
                  refine lv_aload_n hx hb dX9_carryOut_44 rfl (lv_at hl 3 rfl) ?_
                  refine va_get (D := D) (ci := 8) (v := .ref b3) (C := RX8) (T := TX8) (N := 3) hx hb hts hinX8 hown hQ.1 hP 2 rfl rfl 0 (by decide) (hts (.fieldLink RX9 45 "HeatPumpPlant$Weather" "outdoors" "[I") (List.mem_of_getElem? (i := 5) rfl)) (fun _ h9 => h9) rfl dX9_carryOut_45 ?_
                  refine lv_iload_n hx hb dX9_carryOut_48 rfl (lv_at hl 0 rfl) ?_
                  refine lv_aload_n hx hb dX9_carryOut_49 rfl (lv_at hl 2 rfl) ?_
                  refine va_get (D := D) (ci := 9) (v := .int z3.2.2.2.2.2.2.1) (C := RX9) (T := TX9) (N := 7) hx hb hts hinX9 hown hQ.1 hP 0 rfl rfl 5 (by decide) (hts (.fieldLink RX9 30 "HeatPumpPlant$WeatherSheet" "outdoor" "I") (List.mem_of_getElem? (i := 6) rfl)) (fun _ h9 => h9) rfl dX9_carryOut_50 ?_
                  have hP : va_P D vwCl (wF [gT cI b0 b1 z3.2, [(b2, .inr (8, [.ref b3, .ref b4, .ref b5]))], gI cI b3 24 oo, gI cI b4 24 tt, gI cI b5 3 v.2.2]) H := hP
                  have hD : va_D A (wF [gT cI b0 b1 z3.2, [(b2, .inr (8, [.ref b3, .ref b4, .ref b5]))], gI cI b3 24 oo, gI cI b4 24 tt, gI cI b5 3 v.2.2]) := hD
                  have hPc : va_P D vwCl (wF [gI cI b3 24 oo]) H := w_psub hP [2] rfl
                  have hDc : va_D A (wF [gI cI b3 24 oo]) := w_gsub hD [2] rfl rfl
                  refine c_Mv (F := F10_replace 24 oo h z3.2.2.2.2.2.2.1) (G1 := (fun w => [gI cI b3 24 w])) (Gr := [gT cI b0 b1 z3.2, [(b2, .inr (8, [.ref b3, .ref b4, .ref b5]))], gI cI b4 24 tt, gI cI b5 3 v.2.2]) (Gs' := fun z6 => [gT cI b0 b1 z3.2, [(b2, .inr (8, [.ref b3, .ref b4, .ref b5]))], gI cI b3 24 z6, gI cI b4 24 tt, gI cI b5 3 v.2.2]) (va_runSN (As := [.ref b3, .int h, .int z3.2.2.2.2.2.2.1]) (rest := []) ⟨hx, hb, hml, hown, hts⟩ (m10_replace l D cI cL cP b3 24 oo h z3.2.2.2.2.2.2.1 (by decide) H.size) ⟨va_cnB 3 hts gX9_carryOut_X10_replace_n19 rfl rfl rfl (hQ.2 (RX9, 19, yX10_replace, "HeatPumpPlant") (List.mem_of_getElem? (i := 20) rfl)) (hts (.initialized RX10) (List.mem_of_getElem? (i := 28) rfl)) (by decide +kernel) ⟨Nat.le_of_ble_eq_true rfl, Nat.le_of_ble_eq_true rfl⟩, (hts (.static yX10_replace) (List.mem_of_getElem? (i := 42) rfl)), trivial⟩ (preM_S hQ hPc hDc) rfl rfl hl.1 rfl (lv_room (Nat.le_of_ble_eq_true rfl)) dX9_carryOut_53 ⟨Nat.le_of_ble_eq_true rfl, Nat.le_of_ble_eq_true rfl⟩) hS hA hP hD [2] [0, 1, 3, 4] [1, 2, 0, 3, 4] rfl rfl rfl rfl rfl (fun _ => rfl) (fun z6 H locs hz6 hP hD hS => ?_)
                  have hP : va_P D vwCl (wF [gT cI b0 b1 z3.2, gWe cI b2 b3 b4 b5 (z6, tt, v.2.2)]) H := hP
                  have hD : va_D A (wF [gT cI b0 b1 z3.2, gWe cI b2 b3 b4 b5 (z6, tt, v.2.2)]) := hD
                  refine lv_aload_n hx hb dX9_carryOut_56 rfl (lv_at hl 2 rfl) ?_
                  refine va_get (D := D) (ci := 9) (v := .int z3.2.2.2.2.2.2.2) (C := RX9) (T := TX9) (N := 7) hx hb hts hinX9 hown hQ.1 hP 0 rfl rfl 6 (by decide) (hts (.fieldLink RX9 48 "HeatPumpPlant$WeatherSheet" "tariff" "I") (List.mem_of_getElem? (i := 7) rfl)) (fun _ h9 => h9) rfl dX9_carryOut_57 ?_
                  refine lv_iconst (v := (-1 : Int32)) hx hb dX9_carryOut_60 (by decide) ?_
                  refine lv_icmp_eq (tgt := 76) hx hb dX9_carryOut_61 (by decide) (fun c7 => ?_) (fun c7 => ?_)
                  · have c7 : z3.2.2.2.2.2.2.2 = (-1 : Int32) := c7
                    refine lv_iinc (v := (h + (1 : Int32))) (lv' := [(3, .int (h + (1 : Int32))), (2, .int (nI i)), (0, .ref b0), (1, .ref b2)]) hx hb dX9_carryOut_76 hl (k := 0) rfl rfl (by decide) rfl (fun ls hl => ?_)
                    refine lv_goto (tgt := 36) hx hb dX9_carryOut_79 (by decide) ?_
                    have hP : va_P D vwCl (wF [gT cI b0 b1 z3.2, gWe cI b2 b3 b4 b5 (z6, tt, v.2.2)]) H := hP
                    have hD : va_D A (wF [gT cI b0 b1 z3.2, gWe cI b2 b3 b4 b5 (z6, tt, v.2.2)]) := hD
                    exact ih (h + (1 : Int32)) z6 tt (w_h23 c5 hl9 hm) (fun z hz => kk z (hz.trans ((Eq.trans (if_neg c5) (Eq.trans (congrArg (K9_carryOut_2 x0 x1 i x v h oo tt z3 (L9_carryOut_36 x0 x1 z3 i x v fu)) hz6.symm) (Eq.trans (if_pos c7) (rfl)))).symm))) H locs hP hD hS ls (lv_sub hl [0, 1, 2, 3] rfl)
                  · have c7 : ¬ (z3.2.2.2.2.2.2.2 = (-1 : Int32)) := c7
                    refine lv_aload_n hx hb dX9_carryOut_64 rfl (lv_at hl 3 rfl) ?_
                    refine va_get (D := D) (ci := 8) (v := .ref b4) (C := RX8) (T := TX8) (N := 3) hx hb hts hinX8 hown hQ.1 hP 2 rfl rfl 1 (by decide) (hts (.fieldLink RX9 51 "HeatPumpPlant$Weather" "tariffs" "[I") (List.mem_of_getElem? (i := 8) rfl)) (fun _ h9 => h9) rfl dX9_carryOut_65 ?_
                    refine lv_iload_n hx hb dX9_carryOut_68 rfl (lv_at hl 0 rfl) ?_
                    refine lv_aload_n hx hb dX9_carryOut_69 rfl (lv_at hl 2 rfl) ?_
                    refine va_get (D := D) (ci := 9) (v := .int z3.2.2.2.2.2.2.2) (C := RX9) (T := TX9) (N := 7) hx hb hts hinX9 hown hQ.1 hP 0 rfl rfl 6 (by decide) (hts (.fieldLink RX9 48 "HeatPumpPlant$WeatherSheet" "tariff" "I") (List.mem_of_getElem? (i := 7) rfl)) (fun _ h9 => h9) rfl dX9_carryOut_70 ?_
                    have hP : va_P D vwCl (wF [gT cI b0 b1 z3.2, [(b2, .inr (8, [.ref b3, .ref b4, .ref b5]))], gI cI b3 24 z6, gI cI b4 24 tt, gI cI b5 3 v.2.2]) H := hP
                    have hD : va_D A (wF [gT cI b0 b1 z3.2, [(b2, .inr (8, [.ref b3, .ref b4, .ref b5]))], gI cI b3 24 z6, gI cI b4 24 tt, gI cI b5 3 v.2.2]) := hD
                    have hPc : va_P D vwCl (wF [gI cI b4 24 tt]) H := w_psub hP [3] rfl
                    have hDc : va_D A (wF [gI cI b4 24 tt]) := w_gsub hD [3] rfl rfl
                    refine c_Mv (F := F10_replace 24 tt h z3.2.2.2.2.2.2.2) (G1 := (fun w => [gI cI b4 24 w])) (Gr := [gT cI b0 b1 z3.2, [(b2, .inr (8, [.ref b3, .ref b4, .ref b5]))], gI cI b3 24 z6, gI cI b5 3 v.2.2]) (Gs' := fun z8 => [gT cI b0 b1 z3.2, [(b2, .inr (8, [.ref b3, .ref b4, .ref b5]))], gI cI b3 24 z6, gI cI b4 24 z8, gI cI b5 3 v.2.2]) (va_runSN (As := [.ref b4, .int h, .int z3.2.2.2.2.2.2.2]) (rest := []) ⟨hx, hb, hml, hown, hts⟩ (m10_replace l D cI cL cP b4 24 tt h z3.2.2.2.2.2.2.2 (by decide) H.size) ⟨va_cnB 3 hts gX9_carryOut_X10_replace_n19 rfl rfl rfl (hQ.2 (RX9, 19, yX10_replace, "HeatPumpPlant") (List.mem_of_getElem? (i := 20) rfl)) (hts (.initialized RX10) (List.mem_of_getElem? (i := 28) rfl)) (by decide +kernel) ⟨Nat.le_of_ble_eq_true rfl, Nat.le_of_ble_eq_true rfl⟩, (hts (.static yX10_replace) (List.mem_of_getElem? (i := 42) rfl)), trivial⟩ (preM_S hQ hPc hDc) rfl rfl hl.1 rfl (lv_room (Nat.le_of_ble_eq_true rfl)) dX9_carryOut_73 ⟨Nat.le_of_ble_eq_true rfl, Nat.le_of_ble_eq_true rfl⟩) hS hA hP hD [3] [0, 1, 2, 4] [1, 2, 3, 0, 4] rfl rfl rfl rfl rfl (fun _ => rfl) (fun z8 H locs hz8 hP hD hS => ?_)
                    have hP : va_P D vwCl (wF [gT cI b0 b1 z3.2, gWe cI b2 b3 b4 b5 (z6, z8, v.2.2)]) H := hP
                    have hD : va_D A (wF [gT cI b0 b1 z3.2, gWe cI b2 b3 b4 b5 (z6, z8, v.2.2)]) := hD
                    refine lv_iinc (v := (h + (1 : Int32))) (lv' := [(3, .int (h + (1 : Int32))), (2, .int (nI i)), (0, .ref b0), (1, .ref b2)]) hx hb dX9_carryOut_76 hl (k := 0) rfl rfl (by decide) rfl (fun ls hl => ?_)
                    refine lv_goto (tgt := 36) hx hb dX9_carryOut_79 (by decide) ?_
                    have hP : va_P D vwCl (wF [gT cI b0 b1 z3.2, gWe cI b2 b3 b4 b5 (z6, z8, v.2.2)]) H := hP
                    have hD : va_D A (wF [gT cI b0 b1 z3.2, gWe cI b2 b3 b4 b5 (z6, z8, v.2.2)]) := hD
                    exact ih (h + (1 : Int32)) z6 z8 (w_h23 c5 hl9 hm) (fun z hz => kk z (hz.trans ((Eq.trans (if_neg c5) (Eq.trans (congrArg (K9_carryOut_2 x0 x1 i x v h oo tt z3 (L9_carryOut_36 x0 x1 z3 i x v fu)) hz6.symm) (Eq.trans (if_neg c7) (Eq.trans (congrArg (K9_carryOut_3 x0 x1 i x v h oo tt z3 z6 (L9_carryOut_36 x0 x1 z3 i x v fu)) hz8.symm) (rfl))))).symm))) H locs hP hD hS ls (lv_sub hl [0, 1, 2, 3] rfl)
            have hP : va_P D vwCl (wF [gT cI b0 b1 z3.2, gWe cI b2 b3 b4 b5 (v.1, v.2.1, v.2.2)]) H := hP
            have hD : va_D A (wF [gT cI b0 b1 z3.2, gWe cI b2 b3 b4 b5 (v.1, v.2.1, v.2.2)]) := hD
            refine loop36 ((24 - z3.2.2.2.2.1.toInt).toNat + 1) z3.2.2.2.2.1 v.1 v.2.1 (Nat.lt_succ_self _) (fun z9 hz9  H locs hP hD hS ls hl => ?_) H locs hP hD hS ls (lv_sub hl [0, 1, 2, 3] rfl)
            refine lv_iinc (v := (nI (i + 1))) (lv' := [(2, .int (nI (i + 1))), (3, .int z9.1), (0, .ref b0), (1, .ref b2)]) hx hb dX9_carryOut_82 hl (k := 1) rfl (nI_add i 1) (by decide) rfl (fun ls hl => ?_)
            refine lv_goto (tgt := 7) hx hb dX9_carryOut_85 (by decide) ?_
            have hP : va_P D vwCl (wF [gT cI b0 b1 z3.2, gWe cI b2 b3 b4 b5 (z9.2.1, z9.2.2, v.2.2)]) H := hP
            have hD : va_D A (wF [gT cI b0 b1 z3.2, gWe cI b2 b3 b4 b5 (z9.2.1, z9.2.2, v.2.2)]) := hD
            exact ih (i + 1) z3.2 (z9.2.1, z9.2.2, v.2.2) (by omega) (by omega) (fun z hz => kk z (hz.trans ((Eq.trans (if_neg c1) (Eq.trans (if_neg c2) (Eq.trans (congrArg (K9_carryOut_1 x0 x1 i x v (L9_carryOut_7 x0 x1 fu)) hz3.symm) (Eq.trans (if_pos c4) (Eq.trans (congrArg (K9_carryOut_4 x0 x1 i x v z3 (L9_carryOut_7 x0 x1 fu)) hz9.symm) (rfl)))))).symm))) H locs hP hD hS ls (lv_sub hl [0, 2, 3] rfl)
  have hP : va_P D vwCl (wF [gT cI b0 b1 (x0.1, x0.2.1, (0 : Int32), x0.2.2.2.1, x0.2.2.2.2.1, x0.2.2.2.2.2.1, x0.2.2.2.2.2.2), gWe cI b2 b3 b4 b5 x1]) H := hP
  have hD : va_D A (wF [gT cI b0 b1 (x0.1, x0.2.1, (0 : Int32), x0.2.2.2.1, x0.2.2.2.2.1, x0.2.2.2.2.2.1, x0.2.2.2.2.2.2), gWe cI b2 b3 b4 b5 x1]) := hD
  refine loop7 101 0 (x0.1, x0.2.1, (0 : Int32), x0.2.2.2.1, x0.2.2.2.2.1, x0.2.2.2.2.2.1, x0.2.2.2.2.2.2) x1 (by omega) (by omega) (fun z10 hz10 hi_z10 H locs hP hD hS ls hl => ?_) H locs hP hD hS ls (lv_sub hl [0, 1, 2] rfl)
  exact W.vret hx hb hr (fun t ht hW => ⟨⟨(z10.2.1, z10.2.2), rfl, ((Eq.trans (congrArg (K9_carryOut_5 x0 x1) hz10.symm) (rfl)).symm), by rw [ht]; exact hP, hD⟩, hS.F ht⟩) hS.2.2 dX9_carryOut_88
def K10_loadWeather_3 (u : PlS) (o : Nat) (k : Nat) (h : Nat → PlS) (x1 : ST) (z1 : Int32 × ST) (z3 : Int32 × ((Nat × Nat) × (Nat → PlS))) (z4 : ST × SW) : Int32 × PlS × ((Nat × Nat) × (Nat → PlS)) × ST := (z1.1, (((pS u), z4.2, (pK u), (pB u), (pP u), (pA u), (pC u), (pT u)), ((z3.2.1.1, z3.2.1.2), z3.2.2), z4.1))
def K10_loadWeather_2 (u : PlS) (o : Nat) (k : Nat) (h : Nat → PlS) (x1 : ST) (z1 : Int32 × ST) (z3 : Int32 × ((Nat × Nat) × (Nat → PlS))) : Int32 × PlS × ((Nat × Nat) × (Nat → PlS)) × ST := (K10_loadWeather_3 u o k h x1 z1 z3 (F9_carryOut z1.2 (pW u)))
def K10_loadWeather_1 (u : PlS) (o : Nat) (k : Nat) (h : Nat → PlS) (x1 : ST) (z1 : Int32 × ST) : Int32 × PlS × ((Nat × Nat) × (Nat → PlS)) × ST := (if (0 : Int32) ≤ z1.1 then (K10_loadWeather_2 u o k h x1 z1 (F4_record o k h u)) else (z1.1, (u, ((o, k), h), z1.2)))
def F10_loadWeather (u : PlS) (o : Nat) (k : Nat) (h : Nat → PlS) (x1 : ST) : Int32 × PlS × ((Nat × Nat) × (Nat → PlS)) × ST := (K10_loadWeather_1 u o k h x1 (F9_countEntries x1))
set_option maxHeartbeats 4000000 in
set_option maxRecDepth 100000 in
theorem m10_loadWeather (l : Launch) (D : va_G) (cI cL cP : ClassId) (b0 : Nat) (b1 : Nat) (a2 : Nat → Nat) (b3 : Nat) (b4 : Nat) (ca : Nat → Nat → Nat) (b5 : Nat) (b6 : Nat) (u : PlS) (o : Nat) (k : Nat) (h : Nat → PlS) (x1 : ST) (ho : o < 4) (hk : k ≤ 4) (sz : Nat) : Met l yX10_loadWeather wsX10_loadWeather ({ frames := 6, cells := 0, slots := 0, locals := 132 }) (va_Pc [.ref b0] (pM D cI cL cP sz (wF [gX b0 (a2 0) b1 b3 b5, gO (a2 0) (a2 1) (a2 3) (a2 7) (a2 10) (a2 12) (a2 14) (a2 16) (pT u), gS cI (a2 1) (a2 2) (pS u), gWe cI (a2 3) (a2 4) (a2 5) (a2 6) (pW u), gK cI (a2 7) (a2 8) (a2 9) (pK u), gB cL (a2 10) (a2 11) (pB u), gP cI (a2 12) (a2 13) (pP u), gA cI (a2 14) (a2 15) (pA u), gC (a2 16) (pC u), gH cP b3 b4 ca ((nI o), (nI k)), gQ cI cL (ca 0) (h 0), gQ cI cL (ca 1) (h 1), gQ cI cL (ca 2) (h 2), gQ cI cL (ca 3) (h 3), gT cI b5 b6 x1]))) (va_Qi (fun (r : Int32) (w : PlS × ((Nat × Nat) × (Nat → PlS)) × ST) => (r, w) = F10_loadWeather u o k h x1) (qW D (va_A (wF [gX b0 (a2 0) b1 b3 b5, gO (a2 0) (a2 1) (a2 3) (a2 7) (a2 10) (a2 12) (a2 14) (a2 16) (pT u), gS cI (a2 1) (a2 2) (pS u), gWe cI (a2 3) (a2 4) (a2 5) (a2 6) (pW u), gK cI (a2 7) (a2 8) (a2 9) (pK u), gB cL (a2 10) (a2 11) (pB u), gP cI (a2 12) (a2 13) (pP u), gA cI (a2 14) (a2 15) (pA u), gC (a2 16) (pC u), gH cP b3 b4 ca ((nI o), (nI k)), gQ cI cL (ca 0) (h 0), gQ cI cL (ca 1) (h 1), gQ cI cL (ca 2) (h 2), gQ cI cL (ca 3) (h 3), gT cI b5 b6 x1]) sz) (fun w : PlS × ((Nat × Nat) × (Nat → PlS)) × ST => (wF [gX b0 (a2 0) b1 b3 b5, gO (a2 0) (a2 1) (a2 3) (a2 7) (a2 10) (a2 12) (a2 14) (a2 16) (pT w.1), gS cI (a2 1) (a2 2) (pS w.1), gWe cI (a2 3) (a2 4) (a2 5) (a2 6) (pW w.1), gK cI (a2 7) (a2 8) (a2 9) (pK w.1), gB cL (a2 10) (a2 11) (pB w.1), gP cI (a2 12) (a2 13) (pP w.1), gA cI (a2 14) (a2 15) (pA w.1), gC (a2 16) (pC w.1), gH cP b3 b4 ca ((nI w.2.1.1.1), (nI w.2.1.1.2)), gQ cI cL (ca 0) (w.2.1.2 0), gQ cI cL (ca 1) (w.2.1.2 1), gQ cI cL (ca 2) (w.2.1.2 2), gQ cI cL (ca 3) (w.2.1.2 3), gT cI b5 b6 w.2.2]))) (va_A (wF [gX b0 (a2 0) b1 b3 b5, gO (a2 0) (a2 1) (a2 3) (a2 7) (a2 10) (a2 12) (a2 14) (a2 16) (pT u), gS cI (a2 1) (a2 2) (pS u), gWe cI (a2 3) (a2 4) (a2 5) (a2 6) (pW u), gK cI (a2 7) (a2 8) (a2 9) (pK u), gB cL (a2 10) (a2 11) (pB u), gP cI (a2 12) (a2 13) (pP u), gA cI (a2 14) (a2 15) (pA u), gC (a2 16) (pC u), gH cP b3 b4 ca ((nI o), (nI k)), gQ cI cL (ca 0) (h 0), gQ cI cL (ca 1) (h 1), gQ cI cL (ca 2) (h 2), gQ cI cL (ca 3) (h 3), gT cI b5 b6 x1]) sz)) 0 0 (va_A (wF [gX b0 (a2 0) b1 b3 b5, gO (a2 0) (a2 1) (a2 3) (a2 7) (a2 10) (a2 12) (a2 14) (a2 16) (pT u), gS cI (a2 1) (a2 2) (pS u), gWe cI (a2 3) (a2 4) (a2 5) (a2 6) (pW u), gK cI (a2 7) (a2 8) (a2 9) (pK u), gB cL (a2 10) (a2 11) (pB u), gP cI (a2 12) (a2 13) (pP u), gA cI (a2 14) (a2 15) (pA u), gC (a2 16) (pC u), gH cP b3 b4 ca ((nI o), (nI k)), gQ cI cL (ca 0) (h 0), gQ cI cL (ca 1) (h 1), gQ cI cL (ca 2) (h 2), gQ cI cL (ca 3) (h 3), gT cI b5 b6 x1]) sz) := by
  refine Met.ofW (cc := cX10_loadWeather) (maxL := 2) (ret := (some .int)) (by decide) rfl ?_
  intro p e s m args below meth c s₁ B hml hv
  obtain ⟨rfl, hsz, hP, hQ, hD0⟩ := hv
  have hx := B.exec
  have hb := B.bytes
  have hr := B.returns
  have hts := atoms_spec (ws := wsX10_loadWeather) B.pre
  have hown : s.vm.findClass RX10 = some m.cls := findClass_of_methodNamed B.named
  have hlocks := B.notSynchronized
  subst hsz
  have hD := hD0.self (sz := s.heap.size)
  generalize hAe : va_A (wF [gX b0 (a2 0) b1 b3 b5, gO (a2 0) (a2 1) (a2 3) (a2 7) (a2 10) (a2 12) (a2 14) (a2 16) (pT u), gS cI (a2 1) (a2 2) (pS u), gWe cI (a2 3) (a2 4) (a2 5) (a2 6) (pW u), gK cI (a2 7) (a2 8) (a2 9) (pK u), gB cL (a2 10) (a2 11) (pB u), gP cI (a2 12) (a2 13) (pP u), gA cI (a2 14) (a2 15) (pA u), gC (a2 16) (pC u), gH cP b3 b4 ca ((nI o), (nI k)), gQ cI cL (ca 0) (h 0), gQ cI cL (ca 1) (h 1), gQ cI cL (ca 2) (h 2), gQ cI cL (ca 3) (h 3), gT cI b5 b6 x1]) s.heap.size = A at hD ⊢
  have hA : ∀ q : Nat, s.heap.size ≤ q → A q := fun q h => by rw [← hAe]; exact Or.inr h
  have hS : va_S A s.heap s.heap [] := va_S.rf
  have hP : va_P D vwCl (wF [gX b0 (a2 0) b1 b3 b5, gO (a2 0) (a2 1) (a2 3) (a2 7) (a2 10) (a2 12) (a2 14) (a2 16) (pT u), gS cI (a2 1) (a2 2) (pS u), gWe cI (a2 3) (a2 4) (a2 5) (a2 6) (pW u), gK cI (a2 7) (a2 8) (a2 9) (pK u), gB cL (a2 10) (a2 11) (pB u), gP cI (a2 12) (a2 13) (pP u), gA cI (a2 14) (a2 15) (pA u), gC (a2 16) (pC u), gH cP b3 b4 ca ((nI o), (nI k)), gQ cI cL (ca 0) (h 0), gQ cI cL (ca 1) (h 1), gQ cI cL (ca 2) (h 2), gQ cI cL (ca 3) (h 3), gT cI b5 b6 x1]) s.heap := hP
  have hl := lv_entry ([.ref b0]) (n := 2) (Nat.le_of_ble_eq_true rfl)
  rw [lg_entry_eq]
  generalize (lg_sl ([.ref b0]) ++ List.replicate (2 - (lg_sl ([.ref b0])).length) Slot.unset).toArray = ls at hl ⊢
  have hl : lv_has ls 2 [(0, .ref b0)] := hl
  have hinX0 : ∀ w ∈ wsX00, w ∈ wsX10_loadWeather := fun _ h => List.mem_cons_of_mem _ (List.mem_append_right _ h)
  have hinX1 : ∀ w ∈ wsX10, w ∈ wsX10_loadWeather := fun _ h => List.mem_cons_of_mem _ (List.mem_append_left _ (List.mem_append_left _ (List.mem_append_right _ h)))
  have hinX3 : ∀ w ∈ wsX30, w ∈ wsX10_loadWeather := fun _ h => List.mem_cons_of_mem _ (List.mem_append_left _ (List.mem_append_left _ (List.mem_append_left _ (List.mem_append_right _ h))))
  have hinX4 : ∀ w ∈ wsX40, w ∈ wsX10_loadWeather := fun _ h => List.mem_cons_of_mem _ (List.mem_append_left _ (List.mem_append_left _ (List.mem_append_left _ (List.mem_append_left _ (List.mem_append_left _ (List.mem_append_left _ (List.mem_append_right _ h)))))))
  have hinX5 : ∀ w ∈ wsX50, w ∈ wsX10_loadWeather := fun _ h => List.mem_cons_of_mem _ (List.mem_append_left _ (List.mem_append_left _ (List.mem_append_left _ (List.mem_append_left _ (List.mem_append_left _ (List.mem_append_left _ (List.mem_append_left _ (List.mem_append_left _ (List.mem_append_right _ h)))))))))
  have hinX6 : ∀ w ∈ wsX60, w ∈ wsX10_loadWeather := fun _ h => List.mem_cons_of_mem _ (List.mem_append_left _ (List.mem_append_right _ h))
  have hinX7 : ∀ w ∈ wsX70, w ∈ wsX10_loadWeather := fun _ h => List.mem_cons_of_mem _ (List.mem_append_left _ (List.mem_append_left _ (List.mem_append_left _ (List.mem_append_left _ (List.mem_append_left _ (List.mem_append_right _ h))))))
  have hinX8 : ∀ w ∈ wsX80, w ∈ wsX10_loadWeather := fun _ h => List.mem_cons_of_mem _ (List.mem_append_left _ (List.mem_append_left _ (List.mem_append_left _ (List.mem_append_left _ (List.mem_append_right _ h)))))
  have hinX9 : ∀ w ∈ wsX90, w ∈ wsX10_loadWeather := fun _ h => List.mem_cons_of_mem _ (List.mem_append_left _ (List.mem_append_left _ (List.mem_append_left _ (List.mem_append_left _ (List.mem_append_left _ (List.mem_append_left _ (List.mem_append_left _ (List.mem_append_right _ h))))))))
  have hinX10 : ∀ w ∈ wsX100, w ∈ wsX10_loadWeather := fun _ h => List.mem_cons_of_mem _ (List.mem_append_left _ (List.mem_append_left _ (List.mem_append_left _ (List.mem_append_left _ (List.mem_append_left _ (List.mem_append_left _ (List.mem_append_left _ (List.mem_append_left _ (List.mem_append_left _ (List.mem_append_right _ h))))))))))
  refine lv_aload_n hx hb dX10_loadWeather_0 rfl (lv_at hl 0 rfl) ?_
  refine va_get (D := D) (ci := 10) (v := .ref b5) (C := RX10) (T := TX10) (N := 4) hx hb hts hinX10 hown hQ.1 hP 0 rfl rfl 3 (by decide) (hts (.fieldLink RX10 29 "HeatPumpPlant" "text" "LHeatPumpPlant$WeatherSheet;") (List.mem_of_getElem? (i := 1) rfl)) (fun _ h9 => h9) rfl dX10_loadWeather_1 ?_
  have hPc : va_P D vwCl (wF [gT cI b5 b6 x1]) s.heap := w_psub hP [14] rfl
  have hDc : va_D A (wF [gT cI b5 b6 x1]) := w_gsub hD [14] rfl rfl
  refine c_Mi (F := F9_countEntries x1) (G1 := (fun w => [gT cI b5 b6 w])) (Gr := [gX b0 (a2 0) b1 b3 b5, gO (a2 0) (a2 1) (a2 3) (a2 7) (a2 10) (a2 12) (a2 14) (a2 16) (pT u), gS cI (a2 1) (a2 2) (pS u), gWe cI (a2 3) (a2 4) (a2 5) (a2 6) (pW u), gK cI (a2 7) (a2 8) (a2 9) (pK u), gB cL (a2 10) (a2 11) (pB u), gP cI (a2 12) (a2 13) (pP u), gA cI (a2 14) (a2 15) (pA u), gC (a2 16) (pC u), gH cP b3 b4 ca ((nI o), (nI k)), gQ cI cL (ca 0) (h 0), gQ cI cL (ca 1) (h 1), gQ cI cL (ca 2) (h 2), gQ cI cL (ca 3) (h 3)]) (Gs' := fun z1 => [gX b0 (a2 0) b1 b3 b5, gO (a2 0) (a2 1) (a2 3) (a2 7) (a2 10) (a2 12) (a2 14) (a2 16) (pT u), gS cI (a2 1) (a2 2) (pS u), gWe cI (a2 3) (a2 4) (a2 5) (a2 6) (pW u), gK cI (a2 7) (a2 8) (a2 9) (pK u), gB cL (a2 10) (a2 11) (pB u), gP cI (a2 12) (a2 13) (pP u), gA cI (a2 14) (a2 15) (pA u), gC (a2 16) (pC u), gH cP b3 b4 ca ((nI o), (nI k)), gQ cI cL (ca 0) (h 0), gQ cI cL (ca 1) (h 1), gQ cI cL (ca 2) (h 2), gQ cI cL (ca 3) (h 3), gT cI b5 b6 z1.2]) (va_runV (As := []) (rest := []) ⟨hx, hb, hml, hown, hts⟩ (m9_countEntries l D cI cL cP b5 b6 x1 s.heap.size) (cwV 0 hts gX10_loadWeather_X9_countEntries rfl rfl rfl (by decide +kernel) ⟨Nat.le_of_ble_eq_true rfl, Nat.le_of_ble_eq_true rfl⟩) (preM_V (q := (RX9, TX9, 7)) (q0 := 0) hQ hPc hDc rfl rfl) rfl rfl hl.1 rfl (lv_room (Nat.le_of_ble_eq_true rfl)) dX10_loadWeather_4 ⟨Nat.le_of_ble_eq_true rfl, Nat.le_of_ble_eq_true rfl⟩) hS hA hP hD [14] [0, 1, 2, 3, 4, 5, 6, 7, 8, 9, 10, 11, 12, 13] [1, 2, 3, 4, 5, 6, 7, 8, 9, 10, 11, 12, 13, 14, 0] rfl rfl rfl rfl rfl (fun _ => rfl) (fun z1 H locs hz1 hP hD hS => ?_)
  have hP : va_P D vwCl (wF [gX b0 (a2 0) b1 b3 b5, gO (a2 0) (a2 1) (a2 3) (a2 7) (a2 10) (a2 12) (a2 14) (a2 16) (pT u), gS cI (a2 1) (a2 2) (pS u), gWe cI (a2 3) (a2 4) (a2 5) (a2 6) (pW u), gK cI (a2 7) (a2 8) (a2 9) (pK u), gB cL (a2 10) (a2 11) (pB u), gP cI (a2 12) (a2 13) (pP u), gA cI (a2 14) (a2 15) (pA u), gC (a2 16) (pC u), gH cP b3 b4 ca ((nI o), (nI k)), gQ cI cL (ca 0) (h 0), gQ cI cL (ca 1) (h 1), gQ cI cL (ca 2) (h 2), gQ cI cL (ca 3) (h 3), gT cI b5 b6 z1.2]) H := hP
  have hD : va_D A (wF [gX b0 (a2 0) b1 b3 b5, gO (a2 0) (a2 1) (a2 3) (a2 7) (a2 10) (a2 12) (a2 14) (a2 16) (pT u), gS cI (a2 1) (a2 2) (pS u), gWe cI (a2 3) (a2 4) (a2 5) (a2 6) (pW u), gK cI (a2 7) (a2 8) (a2 9) (pK u), gB cL (a2 10) (a2 11) (pB u), gP cI (a2 12) (a2 13) (pP u), gA cI (a2 14) (a2 15) (pA u), gC (a2 16) (pC u), gH cP b3 b4 ca ((nI o), (nI k)), gQ cI cL (ca 0) (h 0), gQ cI cL (ca 1) (h 1), gQ cI cL (ca 2) (h 2), gQ cI cL (ca 3) (h 3), gT cI b5 b6 z1.2]) := hD
  refine lv_istore_n (lv' := [(1, .int z1.1), (0, .ref b0)]) hx hb dX10_loadWeather_7 rfl hl (by decide) rfl (fun ls hl => ?_)
  refine lv_iload_n hx hb dX10_loadWeather_8 rfl (lv_at hl 0 rfl) ?_
  refine lv_if_ge (tgt := 14) hx hb dX10_loadWeather_9 (by decide) (fun c2 => ?_) (fun c2 => ?_)
  · have c2 : (0 : Int32) ≤ z1.1 := c2
    refine lv_aload_n hx hb dX10_loadWeather_14 rfl (lv_at hl 1 rfl) ?_
    refine va_get (D := D) (ci := 10) (v := .ref b3) (C := RX10) (T := TX10) (N := 4) hx hb hts hinX10 hown hQ.1 hP 0 rfl rfl 2 (by decide) (hts (.fieldLink RX10 22 "HeatPumpPlant" "history" "LHeatPumpPlant$History;") (List.mem_of_getElem? (i := 2) rfl)) (fun _ h9 => h9) rfl dX10_loadWeather_15 ?_
    refine lv_aload_n hx hb dX10_loadWeather_18 rfl (lv_at hl 1 rfl) ?_
    refine va_get (D := D) (ci := 10) (v := .ref (a2 0)) (C := RX10) (T := TX10) (N := 4) hx hb hts hinX10 hown hQ.1 hP 0 rfl rfl 0 (by decide) (hts (.fieldLink RX10 10 "HeatPumpPlant" "plant" "LHeatPumpPlant$Plant;") (List.mem_of_getElem? (i := 3) rfl)) (fun _ h9 => h9) rfl dX10_loadWeather_19 ?_
    have hPc : va_P D vwCl (wF [gH cP b3 b4 ca ((nI o), (nI k)), gQ cI cL (ca 0) (h 0), gQ cI cL (ca 1) (h 1), gQ cI cL (ca 2) (h 2), gQ cI cL (ca 3) (h 3), gO (a2 0) (a2 1) (a2 3) (a2 7) (a2 10) (a2 12) (a2 14) (a2 16) (pT u), gS cI (a2 1) (a2 2) (pS u), gWe cI (a2 3) (a2 4) (a2 5) (a2 6) (pW u), gK cI (a2 7) (a2 8) (a2 9) (pK u), gB cL (a2 10) (a2 11) (pB u), gP cI (a2 12) (a2 13) (pP u), gA cI (a2 14) (a2 15) (pA u), gC (a2 16) (pC u)]) H := w_psub hP [9, 10, 11, 12, 13, 1, 2, 3, 4, 5, 6, 7, 8] rfl
    have hDc : va_D A (wF [gH cP b3 b4 ca ((nI o), (nI k)), gQ cI cL (ca 0) (h 0), gQ cI cL (ca 1) (h 1), gQ cI cL (ca 2) (h 2), gQ cI cL (ca 3) (h 3), gO (a2 0) (a2 1) (a2 3) (a2 7) (a2 10) (a2 12) (a2 14) (a2 16) (pT u), gS cI (a2 1) (a2 2) (pS u), gWe cI (a2 3) (a2 4) (a2 5) (a2 6) (pW u), gK cI (a2 7) (a2 8) (a2 9) (pK u), gB cL (a2 10) (a2 11) (pB u), gP cI (a2 12) (a2 13) (pP u), gA cI (a2 14) (a2 15) (pA u), gC (a2 16) (pC u)]) := w_gsub hD [9, 10, 11, 12, 13, 1, 2, 3, 4, 5, 6, 7, 8] rfl rfl
    refine c_Mi (F := F4_record o k h u) (G1 := (fun w => [gH cP b3 b4 ca ((nI w.1.1), (nI w.1.2)), gQ cI cL (ca 0) (w.2 0), gQ cI cL (ca 1) (w.2 1), gQ cI cL (ca 2) (w.2 2), gQ cI cL (ca 3) (w.2 3), gO (a2 0) (a2 1) (a2 3) (a2 7) (a2 10) (a2 12) (a2 14) (a2 16) (pT u), gS cI (a2 1) (a2 2) (pS u), gWe cI (a2 3) (a2 4) (a2 5) (a2 6) (pW u), gK cI (a2 7) (a2 8) (a2 9) (pK u), gB cL (a2 10) (a2 11) (pB u), gP cI (a2 12) (a2 13) (pP u), gA cI (a2 14) (a2 15) (pA u), gC (a2 16) (pC u)])) (Gr := [gX b0 (a2 0) b1 b3 b5, gT cI b5 b6 z1.2]) (Gs' := fun z3 => [gX b0 (a2 0) b1 b3 b5, gO (a2 0) (a2 1) (a2 3) (a2 7) (a2 10) (a2 12) (a2 14) (a2 16) (pT u), gS cI (a2 1) (a2 2) (pS u), gWe cI (a2 3) (a2 4) (a2 5) (a2 6) (pW u), gK cI (a2 7) (a2 8) (a2 9) (pK u), gB cL (a2 10) (a2 11) (pB u), gP cI (a2 12) (a2 13) (pP u), gA cI (a2 14) (a2 15) (pA u), gC (a2 16) (pC u), gH cP b3 b4 ca ((nI z3.2.1.1), (nI z3.2.1.2)), gQ cI cL (ca 0) (z3.2.2 0), gQ cI cL (ca 1) (z3.2.2 1), gQ cI cL (ca 2) (z3.2.2 2), gQ cI cL (ca 3) (z3.2.2 3), gT cI b5 b6 z1.2]) (va_runV (As := [.ref (a2 0)]) (rest := []) ⟨hx, hb, hml, hown, hts⟩ (m4_record l D cI cL cP b3 b4 ca a2 o k h u (by omega) (by omega) H.size) (cwV 1 hts gX10_loadWeather_X4_record rfl rfl rfl (by decide +kernel) ⟨Nat.le_of_ble_eq_true rfl, Nat.le_of_ble_eq_true rfl⟩) (preM_V (q := (RX4, TX4, 3)) (q0 := 0) hQ hPc hDc rfl rfl) rfl rfl hl.1 rfl (lv_room (Nat.le_of_ble_eq_true rfl)) dX10_loadWeather_22 ⟨Nat.le_of_ble_eq_true rfl, Nat.le_of_ble_eq_true rfl⟩) hS hA hP hD [9, 10, 11, 12, 13, 1, 2, 3, 4, 5, 6, 7, 8] [0, 14] [13, 5, 6, 7, 8, 9, 10, 11, 12, 0, 1, 2, 3, 4, 14] rfl rfl rfl rfl rfl (fun _ => rfl) (fun z3 H locs hz3 hP hD hS => ?_)
    have hP : va_P D vwCl (wF [gX b0 (a2 0) b1 b3 b5, gO (a2 0) (a2 1) (a2 3) (a2 7) (a2 10) (a2 12) (a2 14) (a2 16) (pT u), gS cI (a2 1) (a2 2) (pS u), gWe cI (a2 3) (a2 4) (a2 5) (a2 6) (pW u), gK cI (a2 7) (a2 8) (a2 9) (pK u), gB cL (a2 10) (a2 11) (pB u), gP cI (a2 12) (a2 13) (pP u), gA cI (a2 14) (a2 15) (pA u), gC (a2 16) (pC u), gH cP b3 b4 ca ((nI z3.2.1.1), (nI z3.2.1.2)), gQ cI cL (ca 0) (z3.2.2 0), gQ cI cL (ca 1) (z3.2.2 1), gQ cI cL (ca 2) (z3.2.2 2), gQ cI cL (ca 3) (z3.2.2 3), gT cI b5 b6 z1.2]) H := hP
    have hD : va_D A (wF [gX b0 (a2 0) b1 b3 b5, gO (a2 0) (a2 1) (a2 3) (a2 7) (a2 10) (a2 12) (a2 14) (a2 16) (pT u), gS cI (a2 1) (a2 2) (pS u), gWe cI (a2 3) (a2 4) (a2 5) (a2 6) (pW u), gK cI (a2 7) (a2 8) (a2 9) (pK u), gB cL (a2 10) (a2 11) (pB u), gP cI (a2 12) (a2 13) (pP u), gA cI (a2 14) (a2 15) (pA u), gC (a2 16) (pC u), gH cP b3 b4 ca ((nI z3.2.1.1), (nI z3.2.1.2)), gQ cI cL (ca 0) (z3.2.2 0), gQ cI cL (ca 1) (z3.2.2 1), gQ cI cL (ca 2) (z3.2.2 2), gQ cI cL (ca 3) (z3.2.2 3), gT cI b5 b6 z1.2]) := hD
    refine lv_pop hx hb dX10_loadWeather_25 rfl ?_
    refine lv_aload_n hx hb dX10_loadWeather_26 rfl (lv_at hl 1 rfl) ?_
    refine va_get (D := D) (ci := 10) (v := .ref b5) (C := RX10) (T := TX10) (N := 4) hx hb hts hinX10 hown hQ.1 hP 0 rfl rfl 3 (by decide) (hts (.fieldLink RX10 29 "HeatPumpPlant" "text" "LHeatPumpPlant$WeatherSheet;") (List.mem_of_getElem? (i := 1) rfl)) (fun _ h9 => h9) rfl dX10_loadWeather_27 ?_
    refine lv_aload_n hx hb dX10_loadWeather_30 rfl (lv_at hl 1 rfl) ?_
    refine va_get (D := D) (ci := 10) (v := .ref (a2 0)) (C := RX10) (T := TX10) (N := 4) hx hb hts hinX10 hown hQ.1 hP 0 rfl rfl 0 (by decide) (hts (.fieldLink RX10 10 "HeatPumpPlant" "plant" "LHeatPumpPlant$Plant;") (List.mem_of_getElem? (i := 3) rfl)) (fun _ h9 => h9) rfl dX10_loadWeather_31 ?_
    refine va_get (D := D) (ci := 5) (v := .ref (a2 3)) (C := RX5) (T := TX5) (N := 8) hx hb hts hinX5 hown hQ.1 hP 1 rfl rfl 1 (by decide) (hts (.fieldLink RX10 68 "HeatPumpPlant$Plant" "weather" "LHeatPumpPlant$Weather;") (List.mem_of_getElem? (i := 4) rfl)) (fun _ h9 => h9) rfl dX10_loadWeather_34 ?_
    have hPc : va_P D vwCl (wF [gT cI b5 b6 z1.2, gWe cI (a2 3) (a2 4) (a2 5) (a2 6) (pW u)]) H := w_psub hP [14, 3] rfl
    have hDc : va_D A (wF [gT cI b5 b6 z1.2, gWe cI (a2 3) (a2 4) (a2 5) (a2 6) (pW u)]) := w_gsub hD [14, 3] rfl rfl
    refine c_Mv (F := F9_carryOut z1.2 (pW u)) (G1 := (fun w => [gT cI b5 b6 w.1, gWe cI (a2 3) (a2 4) (a2 5) (a2 6) w.2])) (Gr := [gX b0 (a2 0) b1 b3 b5, gO (a2 0) (a2 1) (a2 3) (a2 7) (a2 10) (a2 12) (a2 14) (a2 16) (pT u), gS cI (a2 1) (a2 2) (pS u), gK cI (a2 7) (a2 8) (a2 9) (pK u), gB cL (a2 10) (a2 11) (pB u), gP cI (a2 12) (a2 13) (pP u), gA cI (a2 14) (a2 15) (pA u), gC (a2 16) (pC u), gH cP b3 b4 ca ((nI z3.2.1.1), (nI z3.2.1.2)), gQ cI cL (ca 0) (z3.2.2 0), gQ cI cL (ca 1) (z3.2.2 1), gQ cI cL (ca 2) (z3.2.2 2), gQ cI cL (ca 3) (z3.2.2 3)]) (Gs' := fun z4 => [gX b0 (a2 0) b1 b3 b5, gO (a2 0) (a2 1) (a2 3) (a2 7) (a2 10) (a2 12) (a2 14) (a2 16) (pT u), gS cI (a2 1) (a2 2) (pS u), gWe cI (a2 3) (a2 4) (a2 5) (a2 6) z4.2, gK cI (a2 7) (a2 8) (a2 9) (pK u), gB cL (a2 10) (a2 11) (pB u), gP cI (a2 12) (a2 13) (pP u), gA cI (a2 14) (a2 15) (pA u), gC (a2 16) (pC u), gH cP b3 b4 ca ((nI z3.2.1.1), (nI z3.2.1.2)), gQ cI cL (ca 0) (z3.2.2 0), gQ cI cL (ca 1) (z3.2.2 1), gQ cI cL (ca 2) (z3.2.2 2), gQ cI cL (ca 3) (z3.2.2 3), gT cI b5 b6 z4.1]) (va_runV (As := [.ref (a2 3)]) (rest := []) ⟨hx, hb, hml, hown, hts⟩ (m9_carryOut l D cI cL cP b5 b6 (a2 3) (a2 4) (a2 5) (a2 6) z1.2 (pW u) H.size) (cwV 1 hts gX10_loadWeather_X9_carryOut rfl rfl rfl (by decide +kernel) ⟨Nat.le_of_ble_eq_true rfl, Nat.le_of_ble_eq_true rfl⟩) (preM_V (q := (RX9, TX9, 7)) (q0 := 0) hQ hPc hDc rfl rfl) rfl rfl hl.1 rfl (lv_room (Nat.le_of_ble_eq_true rfl)) dX10_loadWeather_37 ⟨Nat.le_of_ble_eq_true rfl, Nat.le_of_ble_eq_true rfl⟩) hS hA hP hD [14, 3] [0, 1, 2, 4, 5, 6, 7, 8, 9, 10, 11, 12, 13] [2, 3, 4, 1, 5, 6, 7, 8, 9, 10, 11, 12, 13, 14, 0] rfl rfl rfl rfl rfl (fun _ => rfl) (fun z4 H locs hz4 hP hD hS => ?_)
    have hP : va_P D vwCl (wF [gX b0 (a2 0) b1 b3 b5, gO (a2 0) (a2 1) (a2 3) (a2 7) (a2 10) (a2 12) (a2 14) (a2 16) (pT u), gS cI (a2 1) (a2 2) (pS u), gWe cI (a2 3) (a2 4) (a2 5) (a2 6) z4.2, gK cI (a2 7) (a2 8) (a2 9) (pK u), gB cL (a2 10) (a2 11) (pB u), gP cI (a2 12) (a2 13) (pP u), gA cI (a2 14) (a2 15) (pA u), gC (a2 16) (pC u), gH cP b3 b4 ca ((nI z3.2.1.1), (nI z3.2.1.2)), gQ cI cL (ca 0) (z3.2.2 0), gQ cI cL (ca 1) (z3.2.2 1), gQ cI cL (ca 2) (z3.2.2 2), gQ cI cL (ca 3) (z3.2.2 3), gT cI b5 b6 z4.1]) H := hP
    have hD : va_D A (wF [gX b0 (a2 0) b1 b3 b5, gO (a2 0) (a2 1) (a2 3) (a2 7) (a2 10) (a2 12) (a2 14) (a2 16) (pT u), gS cI (a2 1) (a2 2) (pS u), gWe cI (a2 3) (a2 4) (a2 5) (a2 6) z4.2, gK cI (a2 7) (a2 8) (a2 9) (pK u), gB cL (a2 10) (a2 11) (pB u), gP cI (a2 12) (a2 13) (pP u), gA cI (a2 14) (a2 15) (pA u), gC (a2 16) (pC u), gH cP b3 b4 ca ((nI z3.2.1.1), (nI z3.2.1.2)), gQ cI cL (ca 0) (z3.2.2 0), gQ cI cL (ca 1) (z3.2.2 1), gQ cI cL (ca 2) (z3.2.2 2), gQ cI cL (ca 3) (z3.2.2 3), gT cI b5 b6 z4.1]) := hD
    refine lv_iload_n hx hb dX10_loadWeather_40 rfl (lv_at hl 0 rfl) ?_
    exact W.iret (v := z1.1) hx hb hr (fun t ht hW => ⟨⟨z1.1, (((pS u), z4.2, (pK u), (pB u), (pP u), (pA u), (pC u), (pT u)), ((z3.2.1.1, z3.2.1.2), z3.2.2), z4.1), rfl, ((Eq.trans (congrArg (K10_loadWeather_1 u o k h x1) hz1.symm) (Eq.trans (if_pos c2) (Eq.trans (congrArg (K10_loadWeather_2 u o k h x1 z1) hz3.symm) (Eq.trans (congrArg (K10_loadWeather_3 u o k h x1 z1 z3) hz4.symm) (rfl))))).symm), by rw [ht]; exact hP, hD⟩, hS.F ht⟩) hS.2.2 dX10_loadWeather_41
  · have c2 : ¬ ((0 : Int32) ≤ z1.1) := c2
    refine lv_iload_n hx hb dX10_loadWeather_12 rfl (lv_at hl 0 rfl) ?_
    exact W.iret (v := z1.1) hx hb hr (fun t ht hW => ⟨⟨z1.1, (u, ((o, k), h), z1.2), rfl, ((Eq.trans (congrArg (K10_loadWeather_1 u o k h x1) hz1.symm) (Eq.trans (if_neg c2) (rfl))).symm), by rw [ht]; exact hP, hD⟩, hS.F ht⟩) hS.2.2 dX10_loadWeather_13
