theorem dig_l {x0 : MoN} {x1 : SS} {p2 : Int32} (h : F11_isDigit x0 x1 0 p2 = true) : x0.2.2.1 < x0.2.1 ∧ F11_peek x0 x1 = x1 x0.2.2.1 ∧ 48 ≤ (F11_peek x0 x1).toInt ∧ (F11_peek x0 x1).toInt ≤ ((48 : Int32) + p2).toInt := by
  unfold F11_isDigit at h
  have h1 := w_in32 h
  rw [Int32.toInt_toInt64, Int32.toInt_toInt64, show ((48 : Int32) + 0).toInt = 48 from by decide] at h1
  by_cases hl : x0.2.1 ≤ x0.2.2.1
  · exfalso
    have e : F11_peek x0 x1 = -1 := by unfold F11_peek; rw [if_pos hl]
    rw [e, show (-1 : Int32).toInt = -1 from by decide] at h1
    omega
  · refine ⟨by omega, ?_, h1.1, h1.2⟩
    unfold F11_peek
    rw [if_neg hl]
/-- a reader that goes on -/
def tOk (x y : MoN) : Prop := y.1 = x.1 ∧ y.2.1 = x.2.1 ∧ x.2.2.1 ≤ y.2.2.1 ∧ y.2.2.1 ≤ y.2.1
theorem tOk.t {x y z : MoN} (h1 : tOk x y) (h2 : tOk y z) : tOk x z := ⟨h2.1.trans h1.1, h2.2.1.trans h1.2.1, Nat.le_trans h1.2.2.1 h2.2.2.1, h2.2.2.2⟩
theorem takes_ok {x0 : MoN} {x1 : SS} {p1 : Int32} (hat : x0.2.2.1 ≤ x0.2.1) (hp : ¬ p1 = -1) : tOk x0 (F11_takes x0 x1 p1).2 := by
  unfold F11_takes
  refine ⟨rfl, rfl, ?_, ?_⟩
  · exact Nat.le_add_right _ _
  · show x0.2.2.1 + (if F11_peek x0 x1 = p1 then 1 else 0) ≤ x0.2.1
    by_cases hl : x0.2.1 ≤ x0.2.2.1
    · have e : F11_peek x0 x1 = -1 := by unfold F11_peek; rw [if_pos hl]
      rw [e, if_neg (fun e2 => hp e2.symm)]
      exact hat
    · split <;> omega
def F11_takesHour (x0 : MoN) (x1 : SS) : Bool × MoN := (if (F11_isDigit x0 x1 (0 : Int32) (9 : Int32)) = true then (if ((F11_peek x0 x1) - (48 : Int32)) = (1 : Int32) then (if (F11_isDigit (x0.1, x0.2.1, (x0.2.2.1 + 1), ((F11_peek x0 x1) - (48 : Int32)), x0.2.2.2.2.1, x0.2.2.2.2.2.1, x0.2.2.2.2.2.2.1, x0.2.2.2.2.2.2.2) x1 (0 : Int32) (9 : Int32)) = true then (true, (x0.1, x0.2.1, ((x0.2.2.1 + 1) + 1), ((((10 : Int32) * ((F11_peek x0 x1) - (48 : Int32))) + (F11_peek (x0.1, x0.2.1, (x0.2.2.1 + 1), ((F11_peek x0 x1) - (48 : Int32)), x0.2.2.2.2.1, x0.2.2.2.2.2.1, x0.2.2.2.2.2.2.1, x0.2.2.2.2.2.2.2) x1)) - (48 : Int32)), x0.2.2.2.2.1, x0.2.2.2.2.2.1, x0.2.2.2.2.2.2.1, x0.2.2.2.2.2.2.2)) else (if ((F11_peek x0 x1) - (48 : Int32)) = (2 : Int32) then (if (F11_isDigit (x0.1, x0.2.1, (x0.2.2.1 + 1), ((F11_peek x0 x1) - (48 : Int32)), x0.2.2.2.2.1, x0.2.2.2.2.2.1, x0.2.2.2.2.2.2.1, x0.2.2.2.2.2.2.2) x1 (0 : Int32) (3 : Int32)) = true then (true, (x0.1, x0.2.1, ((x0.2.2.1 + 1) + 1), ((((10 : Int32) * ((F11_peek x0 x1) - (48 : Int32))) + (F11_peek (x0.1, x0.2.1, (x0.2.2.1 + 1), ((F11_peek x0 x1) - (48 : Int32)), x0.2.2.2.2.1, x0.2.2.2.2.2.1, x0.2.2.2.2.2.2.1, x0.2.2.2.2.2.2.2) x1)) - (48 : Int32)), x0.2.2.2.2.1, x0.2.2.2.2.2.1, x0.2.2.2.2.2.2.1, x0.2.2.2.2.2.2.2)) else (true, (x0.1, x0.2.1, (x0.2.2.1 + 1), ((F11_peek x0 x1) - (48 : Int32)), x0.2.2.2.2.1, x0.2.2.2.2.2.1, x0.2.2.2.2.2.2.1, x0.2.2.2.2.2.2.2))) else (true, (x0.1, x0.2.1, (x0.2.2.1 + 1), ((F11_peek x0 x1) - (48 : Int32)), x0.2.2.2.2.1, x0.2.2.2.2.2.1, x0.2.2.2.2.2.2.1, x0.2.2.2.2.2.2.2)))) else (if ((F11_peek x0 x1) - (48 : Int32)) = (2 : Int32) then (if (F11_isDigit (x0.1, x0.2.1, (x0.2.2.1 + 1), ((F11_peek x0 x1) - (48 : Int32)), x0.2.2.2.2.1, x0.2.2.2.2.2.1, x0.2.2.2.2.2.2.1, x0.2.2.2.2.2.2.2) x1 (0 : Int32) (3 : Int32)) = true then (true, (x0.1, x0.2.1, ((x0.2.2.1 + 1) + 1), ((((10 : Int32) * ((F11_peek x0 x1) - (48 : Int32))) + (F11_peek (x0.1, x0.2.1, (x0.2.2.1 + 1), ((F11_peek x0 x1) - (48 : Int32)), x0.2.2.2.2.1, x0.2.2.2.2.2.1, x0.2.2.2.2.2.2.1, x0.2.2.2.2.2.2.2) x1)) - (48 : Int32)), x0.2.2.2.2.1, x0.2.2.2.2.2.1, x0.2.2.2.2.2.2.1, x0.2.2.2.2.2.2.2)) else (true, (x0.1, x0.2.1, (x0.2.2.1 + 1), ((F11_peek x0 x1) - (48 : Int32)), x0.2.2.2.2.1, x0.2.2.2.2.2.1, x0.2.2.2.2.2.2.1, x0.2.2.2.2.2.2.2))) else (true, (x0.1, x0.2.1, (x0.2.2.1 + 1), ((F11_peek x0 x1) - (48 : Int32)), x0.2.2.2.2.1, x0.2.2.2.2.2.1, x0.2.2.2.2.2.2.1, x0.2.2.2.2.2.2.2)))) else (false, x0))
set_option maxHeartbeats 4000000 in
set_option maxRecDepth 100000 in
theorem m11_takesHour (l : Launch) (D : va_G) (cI cL cP : ClassId) (b0 : Nat) (b1 : Nat) (b2 : Nat) (x0 : MoN) (x1 : SS) (hat : x0.2.2.1 ≤ x0.2.1) (hlen : x0.2.1 ≤ 100) (sz : Nat) : Met l yX11_takesHour wsX11_takesHour ({ frames := 2, cells := 0, slots := 0, locals := 47 }) (va_Pc [.ref b0] (pM D cI cL cP sz (wF [gN b0 b1 b2 x0, gI cI b2 100 x1]))) (va_Qi (fun (r : Int32) (w : MoN) => (r, w) = (bI (F11_takesHour x0 x1).1, (F11_takesHour x0 x1).2)) (qW D (va_A (wF [gN b0 b1 b2 x0, gI cI b2 100 x1]) sz) (fun w : MoN => (wF [gN b0 b1 b2 w, gI cI b2 100 x1]))) (va_A (wF [gN b0 b1 b2 x0, gI cI b2 100 x1]) sz)) 0 0 (va_A (wF [gN b0 b1 b2 x0, gI cI b2 100 x1]) sz) := by
  refine Met.ofW (cc := cX11_takesHour) (maxL := 1) (ret := (some .boolean)) (by decide) rfl ?_
  intro p e s m args below meth c s₁ B hml hv
  obtain ⟨rfl, hsz, hP, hQ, hD0⟩ := hv
  have hx := B.exec
  have hb := B.bytes
  have hr := B.returns
  have hts := atoms_spec (ws := wsX11_takesHour) B.pre
  have hown : s.vm.findClass RX11 = some m.cls := findClass_of_methodNamed B.named
  have hlocks := B.notSynchronized
  subst hsz
  have hD := hD0.self (sz := s.heap.size)
  generalize hAe : va_A (wF [gN b0 b1 b2 x0, gI cI b2 100 x1]) s.heap.size = A at hD ⊢
  have hA : ∀ q : Nat, s.heap.size ≤ q → A q := fun q h => by rw [← hAe]; exact Or.inr h
  have hS : va_S A s.heap s.heap [] := va_S.rf
  have hP : va_P D vwCl (wF [gN b0 b1 b2 x0, gI cI b2 100 x1]) s.heap := hP
  have hl := lv_entry ([.ref b0]) (n := 1) (Nat.le_of_ble_eq_true rfl)
  rw [lg_entry_eq]
  generalize (lg_sl ([.ref b0]) ++ List.replicate (1 - (lg_sl ([.ref b0])).length) Slot.unset).toArray = ls at hl ⊢
  have hl : lv_has ls 1 [(0, .ref b0)] := hl
  have hinX11 : ∀ w ∈ wsX110, w ∈ wsX11_takesHour := fun _ h => List.mem_cons_of_mem _ (List.mem_append_right _ h)
  refine lv_aload_n hx hb dX11_takesHour_0 rfl (lv_at hl 0 rfl) ?_
  refine lv_iconst (v := (0 : Int32)) hx hb dX11_takesHour_1 (by decide) ?_
  refine lv_bipush (v := (9 : Int32)) hx hb dX11_takesHour_2 (by decide) ?_
  have hPc : va_P D vwCl (wF [gN b0 b1 b2 x0, gI cI b2 100 x1]) s.heap := hP.sub [0, 1] rfl
  refine c_Ri (va_runV (As := [.int (0 : Int32), .int (9 : Int32)]) (rest := []) ⟨hx, hb, hml, hown, hts⟩ (m11_isDigit l D cI cL cP b0 b1 b2 x0 x1 (0 : Int32) (9 : Int32) (show x0.2.2.1 ≤ x0.2.1 by omega) (show x0.2.1 ≤ 100 by omega) s.heap) (cwV 2 hts gX11_takesHour_X11_isDigit rfl rfl rfl (by decide +kernel) ⟨Nat.le_of_ble_eq_true rfl, Nat.le_of_ble_eq_true rfl⟩) (preR_V (q := (RX11, TX11, 10)) (q0 := 0) hQ hPc rfl rfl) rfl rfl hl.1 rfl (lv_room (Nat.le_of_ble_eq_true rfl)) dX11_takesHour_4 ⟨Nat.le_of_ble_eq_true rfl, Nat.le_of_ble_eq_true rfl⟩) hS (fun locs hS => ?_)
  refine lv_if_ne (tgt := 12) hx hb dX11_takesHour_7 (by decide) (fun c1 => ?_) (fun c1 => ?_)
  · have c1 : (F11_isDigit x0 x1 (0 : Int32) (9 : Int32)) = true := bI_1.mp c1
    have hrc1 := (dig_l c1).1
    refine lv_aload_n hx hb dX11_takesHour_12 rfl (lv_at hl 0 rfl) ?_
    refine lv_aload_n hx hb dX11_takesHour_13 rfl (lv_at hl 0 rfl) ?_
    have hPc : va_P D vwCl (wF [gN b0 b1 b2 x0, gI cI b2 100 x1]) s.heap := hP.sub [0, 1] rfl
    refine c_Ri (va_runV (As := []) (rest := [.ref b0]) ⟨hx, hb, hml, hown, hts⟩ (m11_peek l D cI cL cP b0 b1 b2 x0 x1 (show x0.2.2.1 ≤ x0.2.1 by omega) (show x0.2.1 ≤ 100 by omega) s.heap) (cwV 0 hts gX11_takesHour_X11_peek rfl rfl rfl (by decide +kernel) ⟨Nat.le_of_ble_eq_true rfl, Nat.le_of_ble_eq_true rfl⟩) (preR_V (q := (RX11, TX11, 10)) (q0 := 0) hQ hPc rfl rfl) rfl rfl hl.1 rfl (lv_room (Nat.le_of_ble_eq_true rfl)) dX11_takesHour_14 ⟨Nat.le_of_ble_eq_true rfl, Nat.le_of_ble_eq_true rfl⟩) hS (fun locs hS => ?_)
    refine lv_bipush (v := (48 : Int32)) hx hb dX11_takesHour_17 (by decide) ?_
    refine lv_isub hx hb dX11_takesHour_19 ?_
    refine va_put (D := D) (ci := 11) (v := .int ((F11_peek x0 x1) - (48 : Int32))) (ty := .int) (C := RX11) (T := TX11) (N := 10) hx hb hts hinX11 tyX11 tyX11_ok nmX11 hown hQ.1 hP hD hS 0 rfl rfl 5 (by decide) (hts (.fieldLink RX11 214 "HeatPumpPlantModel" "number" "I") (List.mem_of_getElem? (i := 1) rfl)) (fun _ h9 => h9) rfl (by decide +kernel) rfl rfl (Nat.le_of_ble_eq_true rfl) dX11_takesHour_20 (fun H locs hP hD hS => ?_)
    have hP : va_P D vwCl (wF [gN b0 b1 b2 (x0.1, x0.2.1, x0.2.2.1, ((F11_peek x0 x1) - (48 : Int32)), x0.2.2.2.2.1, x0.2.2.2.2.2.1, x0.2.2.2.2.2.2.1, x0.2.2.2.2.2.2.2), gI cI b2 100 x1]) H := hP
    have hD : va_D A (wF [gN b0 b1 b2 (x0.1, x0.2.1, x0.2.2.1, ((F11_peek x0 x1) - (48 : Int32)), x0.2.2.2.2.1, x0.2.2.2.2.2.1, x0.2.2.2.2.2.2.1, x0.2.2.2.2.2.2.2), gI cI b2 100 x1]) := hD
    refine lv_aload_n hx hb dX11_takesHour_23 rfl (lv_at hl 0 rfl) ?_
    refine lv_dup hx hb dX11_takesHour_24 rfl ?_
    refine va_get (D := D) (ci := 11) (v := .int (nI x0.2.2.1)) (C := RX11) (T := TX11) (N := 10) hx hb hts hinX11 hown hQ.1 hP 0 rfl rfl 4 (by decide) (hts (.fieldLink RX11 204 "HeatPumpPlantModel" "at" "I") (List.mem_of_getElem? (i := 2) rfl)) (fun _ h9 => h9) rfl dX11_takesHour_25 ?_
    refine lv_iconst (v := (1 : Int32)) hx hb dX11_takesHour_28 (by decide) ?_
    refine lv_iadd hx hb dX11_takesHour_29 ?_
    refine va_put (D := D) (ci := 11) (v := .int ((nI x0.2.2.1) + (1 : Int32))) (ty := .int) (C := RX11) (T := TX11) (N := 10) hx hb hts hinX11 tyX11 tyX11_ok nmX11 hown hQ.1 hP hD hS 0 rfl rfl 4 (by decide) (hts (.fieldLink RX11 204 "HeatPumpPlantModel" "at" "I") (List.mem_of_getElem? (i := 2) rfl)) (fun _ h9 => h9) rfl (by decide +kernel) rfl rfl (Nat.le_of_ble_eq_true rfl) dX11_takesHour_30 (fun H locs hP hD hS => ?_)
    rw [show ((nI x0.2.2.1) + (1 : Int32)) = nI (x0.2.2.1 + 1) from ((congr (congrArg HAdd.hAdd (show (nI x0.2.2.1) = nI x0.2.2.1 from rfl)) (show (1 : Int32) = nI 1 from (rfl : (1 : Int32) = nI 1))).trans (nI_add x0.2.2.1 1))] at hP hD
    have hP : va_P D vwCl (wF [gN b0 b1 b2 (x0.1, x0.2.1, (x0.2.2.1 + 1), ((F11_peek x0 x1) - (48 : Int32)), x0.2.2.2.2.1, x0.2.2.2.2.2.1, x0.2.2.2.2.2.2.1, x0.2.2.2.2.2.2.2), gI cI b2 100 x1]) H := hP
    have hD : va_D A (wF [gN b0 b1 b2 (x0.1, x0.2.1, (x0.2.2.1 + 1), ((F11_peek x0 x1) - (48 : Int32)), x0.2.2.2.2.1, x0.2.2.2.2.2.1, x0.2.2.2.2.2.2.1, x0.2.2.2.2.2.2.2), gI cI b2 100 x1]) := hD
    refine lv_aload_n hx hb dX11_takesHour_33 rfl (lv_at hl 0 rfl) ?_
    refine va_get (D := D) (ci := 11) (v := .int ((F11_peek x0 x1) - (48 : Int32))) (C := RX11) (T := TX11) (N := 10) hx hb hts hinX11 hown hQ.1 hP 0 rfl rfl 5 (by decide) (hts (.fieldLink RX11 214 "HeatPumpPlantModel" "number" "I") (List.mem_of_getElem? (i := 1) rfl)) (fun _ h9 => h9) rfl dX11_takesHour_34 ?_
    refine lv_iconst (v := (1 : Int32)) hx hb dX11_takesHour_37 (by decide) ?_
    refine lv_icmp_ne (tgt := 51) hx hb dX11_takesHour_38 (by decide) (fun c2 => ?_) (fun c2 => ?_)
    · have c2 : ¬ (((F11_peek x0 x1) - (48 : Int32)) = (1 : Int32)) := c2
      refine lv_aload_n hx hb dX11_takesHour_51 rfl (lv_at hl 0 rfl) ?_
      refine va_get (D := D) (ci := 11) (v := .int ((F11_peek x0 x1) - (48 : Int32))) (C := RX11) (T := TX11) (N := 10) hx hb hts hinX11 hown hQ.1 hP 0 rfl rfl 5 (by decide) (hts (.fieldLink RX11 214 "HeatPumpPlantModel" "number" "I") (List.mem_of_getElem? (i := 1) rfl)) (fun _ h9 => h9) rfl dX11_takesHour_52 ?_
      refine lv_iconst (v := (2 : Int32)) hx hb dX11_takesHour_55 (by decide) ?_
      refine lv_icmp_ne (tgt := 97) hx hb dX11_takesHour_56 (by decide) (fun c3 => ?_) (fun c3 => ?_)
      · have c3 : ¬ (((F11_peek x0 x1) - (48 : Int32)) = (2 : Int32)) := c3
        refine lv_iconst (v := (1 : Int32)) hx hb dX11_takesHour_97 (by decide) ?_
        exact W.zret (v := (1 : Int32)) (ty := .boolean) hx hb hr rfl (fun t ht hW => ⟨⟨(1 : Int32), (x0.1, x0.2.1, (x0.2.2.1 + 1), ((F11_peek x0 x1) - (48 : Int32)), x0.2.2.2.2.1, x0.2.2.2.2.2.1, x0.2.2.2.2.2.2.1, x0.2.2.2.2.2.2.2), rfl, ((congrArg (fun q : Bool × MoN => (bI q.1, q.2)) (show F11_takesHour x0 x1 = (true, (x0.1, x0.2.1, (x0.2.2.1 + 1), ((F11_peek x0 x1) - (48 : Int32)), x0.2.2.2.2.1, x0.2.2.2.2.2.1, x0.2.2.2.2.2.2.1, x0.2.2.2.2.2.2.2)) from Eq.trans (if_pos c1) (Eq.trans (if_neg c2) (Eq.trans (if_neg c3) (rfl))))).symm), by rw [ht]; exact hP, hD⟩, hS.F ht⟩) hS.2.2 dX11_takesHour_98
      · have c3 : ((F11_peek x0 x1) - (48 : Int32)) = (2 : Int32) := c3
        refine lv_aload_n hx hb dX11_takesHour_59 rfl (lv_at hl 0 rfl) ?_
        refine lv_iconst (v := (0 : Int32)) hx hb dX11_takesHour_60 (by decide) ?_
        refine lv_iconst (v := (3 : Int32)) hx hb dX11_takesHour_61 (by decide) ?_
        have hPc : va_P D vwCl (wF [gN b0 b1 b2 (x0.1, x0.2.1, (x0.2.2.1 + 1), ((F11_peek x0 x1) - (48 : Int32)), x0.2.2.2.2.1, x0.2.2.2.2.2.1, x0.2.2.2.2.2.2.1, x0.2.2.2.2.2.2.2), gI cI b2 100 x1]) H := hP.sub [0, 1] rfl
        refine c_Ri (va_runV (As := [.int (0 : Int32), .int (3 : Int32)]) (rest := []) ⟨hx, hb, hml, hown, hts⟩ (m11_isDigit l D cI cL cP b0 b1 b2 (x0.1, x0.2.1, (x0.2.2.1 + 1), ((F11_peek x0 x1) - (48 : Int32)), x0.2.2.2.2.1, x0.2.2.2.2.2.1, x0.2.2.2.2.2.2.1, x0.2.2.2.2.2.2.2) x1 (0 : Int32) (3 : Int32) (show (x0.2.2.1 + 1) ≤ x0.2.1 by omega) (show x0.2.1 ≤ 100 by omega) H) (cwV 2 hts gX11_takesHour_X11_isDigit rfl rfl rfl (by decide +kernel) ⟨Nat.le_of_ble_eq_true rfl, Nat.le_of_ble_eq_true rfl⟩) (preR_V (q := (RX11, TX11, 10)) (q0 := 0) hQ hPc rfl rfl) rfl rfl hl.1 rfl (lv_room (Nat.le_of_ble_eq_true rfl)) dX11_takesHour_62 ⟨Nat.le_of_ble_eq_true rfl, Nat.le_of_ble_eq_true rfl⟩) hS (fun locs hS => ?_)
        refine lv_if_eq (tgt := 97) hx hb dX11_takesHour_65 (by decide) (fun c4 => ?_) (fun c4 => ?_)
        · have c4 : ¬ ((F11_isDigit (x0.1, x0.2.1, (x0.2.2.1 + 1), ((F11_peek x0 x1) - (48 : Int32)), x0.2.2.2.2.1, x0.2.2.2.2.2.1, x0.2.2.2.2.2.2.1, x0.2.2.2.2.2.2.2) x1 (0 : Int32) (3 : Int32)) = true) := bI_0.mp c4
          refine lv_iconst (v := (1 : Int32)) hx hb dX11_takesHour_97 (by decide) ?_
          exact W.zret (v := (1 : Int32)) (ty := .boolean) hx hb hr rfl (fun t ht hW => ⟨⟨(1 : Int32), (x0.1, x0.2.1, (x0.2.2.1 + 1), ((F11_peek x0 x1) - (48 : Int32)), x0.2.2.2.2.1, x0.2.2.2.2.2.1, x0.2.2.2.2.2.2.1, x0.2.2.2.2.2.2.2), rfl, ((congrArg (fun q : Bool × MoN => (bI q.1, q.2)) (show F11_takesHour x0 x1 = (true, (x0.1, x0.2.1, (x0.2.2.1 + 1), ((F11_peek x0 x1) - (48 : Int32)), x0.2.2.2.2.1, x0.2.2.2.2.2.1, x0.2.2.2.2.2.2.1, x0.2.2.2.2.2.2.2)) from Eq.trans (if_pos c1) (Eq.trans (if_neg c2) (Eq.trans (if_pos c3) (Eq.trans (if_neg c4) (rfl)))))).symm), by rw [ht]; exact hP, hD⟩, hS.F ht⟩) hS.2.2 dX11_takesHour_98
        · have c4 : (F11_isDigit (x0.1, x0.2.1, (x0.2.2.1 + 1), ((F11_peek x0 x1) - (48 : Int32)), x0.2.2.2.2.1, x0.2.2.2.2.2.1, x0.2.2.2.2.2.2.1, x0.2.2.2.2.2.2.2) x1 (0 : Int32) (3 : Int32)) = true := bI_1.mp c4
          have hrc4 := (dig_l c4).1
          refine lv_aload_n hx hb dX11_takesHour_68 rfl (lv_at hl 0 rfl) ?_
          refine lv_bipush (v := (10 : Int32)) hx hb dX11_takesHour_69 (by decide) ?_
          refine lv_aload_n hx hb dX11_takesHour_71 rfl (lv_at hl 0 rfl) ?_
          refine va_get (D := D) (ci := 11) (v := .int ((F11_peek x0 x1) - (48 : Int32))) (C := RX11) (T := TX11) (N := 10) hx hb hts hinX11 hown hQ.1 hP 0 rfl rfl 5 (by decide) (hts (.fieldLink RX11 214 "HeatPumpPlantModel" "number" "I") (List.mem_of_getElem? (i := 1) rfl)) (fun _ h9 => h9) rfl dX11_takesHour_72 ?_
          refine lv_imul hx hb dX11_takesHour_75 ?_
          refine lv_aload_n hx hb dX11_takesHour_76 rfl (lv_at hl 0 rfl) ?_
          have hPc : va_P D vwCl (wF [gN b0 b1 b2 (x0.1, x0.2.1, (x0.2.2.1 + 1), ((F11_peek x0 x1) - (48 : Int32)), x0.2.2.2.2.1, x0.2.2.2.2.2.1, x0.2.2.2.2.2.2.1, x0.2.2.2.2.2.2.2), gI cI b2 100 x1]) H := hP.sub [0, 1] rfl
          refine c_Ri (va_runV (As := []) (rest := [.int ((10 : Int32) * ((F11_peek x0 x1) - (48 : Int32))), .ref b0]) ⟨hx, hb, hml, hown, hts⟩ (m11_peek l D cI cL cP b0 b1 b2 (x0.1, x0.2.1, (x0.2.2.1 + 1), ((F11_peek x0 x1) - (48 : Int32)), x0.2.2.2.2.1, x0.2.2.2.2.2.1, x0.2.2.2.2.2.2.1, x0.2.2.2.2.2.2.2) x1 (show (x0.2.2.1 + 1) ≤ x0.2.1 by omega) (show x0.2.1 ≤ 100 by omega) H) (cwV 0 hts gX11_takesHour_X11_peek rfl rfl rfl (by decide +kernel) ⟨Nat.le_of_ble_eq_true rfl, Nat.le_of_ble_eq_true rfl⟩) (preR_V (q := (RX11, TX11, 10)) (q0 := 0) hQ hPc rfl rfl) rfl rfl hl.1 rfl (lv_room (Nat.le_of_ble_eq_true rfl)) dX11_takesHour_77 ⟨Nat.le_of_ble_eq_true rfl, Nat.le_of_ble_eq_true rfl⟩) hS (fun locs hS => ?_)
          refine lv_iadd hx hb dX11_takesHour_80 ?_
          refine lv_bipush (v := (48 : Int32)) hx hb dX11_takesHour_81 (by decide) ?_
          refine lv_isub hx hb dX11_takesHour_83 ?_
          refine va_put (D := D) (ci := 11) (v := .int ((((10 : Int32) * ((F11_peek x0 x1) - (48 : Int32))) + (F11_peek (x0.1, x0.2.1, (x0.2.2.1 + 1), ((F11_peek x0 x1) - (48 : Int32)), x0.2.2.2.2.1, x0.2.2.2.2.2.1, x0.2.2.2.2.2.2.1, x0.2.2.2.2.2.2.2) x1)) - (48 : Int32))) (ty := .int) (C := RX11) (T := TX11) (N := 10) hx hb hts hinX11 tyX11 tyX11_ok nmX11 hown hQ.1 hP hD hS 0 rfl rfl 5 (by decide) (hts (.fieldLink RX11 214 "HeatPumpPlantModel" "number" "I") (List.mem_of_getElem? (i := 1) rfl)) (fun _ h9 => h9) rfl (by decide +kernel) rfl rfl (Nat.le_of_ble_eq_true rfl) dX11_takesHour_84 (fun H locs hP hD hS => ?_)
          have hP : va_P D vwCl (wF [gN b0 b1 b2 (x0.1, x0.2.1, (x0.2.2.1 + 1), ((((10 : Int32) * ((F11_peek x0 x1) - (48 : Int32))) + (F11_peek (x0.1, x0.2.1, (x0.2.2.1 + 1), ((F11_peek x0 x1) - (48 : Int32)), x0.2.2.2.2.1, x0.2.2.2.2.2.1, x0.2.2.2.2.2.2.1, x0.2.2.2.2.2.2.2) x1)) - (48 : Int32)), x0.2.2.2.2.1, x0.2.2.2.2.2.1, x0.2.2.2.2.2.2.1, x0.2.2.2.2.2.2.2), gI cI b2 100 x1]) H := hP
          have hD : va_D A (wF [gN b0 b1 b2 (x0.1, x0.2.1, (x0.2.2.1 + 1), ((((10 : Int32) * ((F11_peek x0 x1) - (48 : Int32))) + (F11_peek (x0.1, x0.2.1, (x0.2.2.1 + 1), ((F11_peek x0 x1) - (48 : Int32)), x0.2.2.2.2.1, x0.2.2.2.2.2.1, x0.2.2.2.2.2.2.1, x0.2.2.2.2.2.2.2) x1)) - (48 : Int32)), x0.2.2.2.2.1, x0.2.2.2.2.2.1, x0.2.2.2.2.2.2.1, x0.2.2.2.2.2.2.2), gI cI b2 100 x1]) := hD
          refine lv_aload_n hx hb dX11_takesHour_87 rfl (lv_at hl 0 rfl) ?_
          refine lv_dup hx hb dX11_takesHour_88 rfl ?_
          refine va_get (D := D) (ci := 11) (v := .int (nI (x0.2.2.1 + 1))) (C := RX11) (T := TX11) (N := 10) hx hb hts hinX11 hown hQ.1 hP 0 rfl rfl 4 (by decide) (hts (.fieldLink RX11 204 "HeatPumpPlantModel" "at" "I") (List.mem_of_getElem? (i := 2) rfl)) (fun _ h9 => h9) rfl dX11_takesHour_89 ?_
          refine lv_iconst (v := (1 : Int32)) hx hb dX11_takesHour_92 (by decide) ?_
          refine lv_iadd hx hb dX11_takesHour_93 ?_
          refine va_put (D := D) (ci := 11) (v := .int ((nI (x0.2.2.1 + 1)) + (1 : Int32))) (ty := .int) (C := RX11) (T := TX11) (N := 10) hx hb hts hinX11 tyX11 tyX11_ok nmX11 hown hQ.1 hP hD hS 0 rfl rfl 4 (by decide) (hts (.fieldLink RX11 204 "HeatPumpPlantModel" "at" "I") (List.mem_of_getElem? (i := 2) rfl)) (fun _ h9 => h9) rfl (by decide +kernel) rfl rfl (Nat.le_of_ble_eq_true rfl) dX11_takesHour_94 (fun H locs hP hD hS => ?_)
          rw [show ((nI (x0.2.2.1 + 1)) + (1 : Int32)) = nI ((x0.2.2.1 + 1) + 1) from ((congr (congrArg HAdd.hAdd (show (nI (x0.2.2.1 + 1)) = nI (x0.2.2.1 + 1) from rfl)) (show (1 : Int32) = nI 1 from (rfl : (1 : Int32) = nI 1))).trans (nI_add (x0.2.2.1 + 1) 1))] at hP hD
          have hP : va_P D vwCl (wF [gN b0 b1 b2 (x0.1, x0.2.1, ((x0.2.2.1 + 1) + 1), ((((10 : Int32) * ((F11_peek x0 x1) - (48 : Int32))) + (F11_peek (x0.1, x0.2.1, (x0.2.2.1 + 1), ((F11_peek x0 x1) - (48 : Int32)), x0.2.2.2.2.1, x0.2.2.2.2.2.1, x0.2.2.2.2.2.2.1, x0.2.2.2.2.2.2.2) x1)) - (48 : Int32)), x0.2.2.2.2.1, x0.2.2.2.2.2.1, x0.2.2.2.2.2.2.1, x0.2.2.2.2.2.2.2), gI cI b2 100 x1]) H := hP
          have hD : va_D A (wF [gN b0 b1 b2 (x0.1, x0.2.1, ((x0.2.2.1 + 1) + 1), ((((10 : Int32) * ((F11_peek x0 x1) - (48 : Int32))) + (F11_peek (x0.1, x0.2.1, (x0.2.2.1 + 1), ((F11_peek x0 x1) - (48 : Int32)), x0.2.2.2.2.1, x0.2.2.2.2.2.1, x0.2.2.2.2.2.2.1, x0.2.2.2.2.2.2.2) x1)) - (48 : Int32)), x0.2.2.2.2.1, x0.2.2.2.2.2.1, x0.2.2.2.2.2.2.1, x0.2.2.2.2.2.2.2), gI cI b2 100 x1]) := hD
          refine lv_iconst (v := (1 : Int32)) hx hb dX11_takesHour_97 (by decide) ?_
          exact W.zret (v := (1 : Int32)) (ty := .boolean) hx hb hr rfl (fun t ht hW => ⟨⟨(1 : Int32), (x0.1, x0.2.1, ((x0.2.2.1 + 1) + 1), ((((10 : Int32) * ((F11_peek x0 x1) - (48 : Int32))) + (F11_peek (x0.1, x0.2.1, (x0.2.2.1 + 1), ((F11_peek x0 x1) - (48 : Int32)), x0.2.2.2.2.1, x0.2.2.2.2.2.1, x0.2.2.2.2.2.2.1, x0.2.2.2.2.2.2.2) x1)) - (48 : Int32)), x0.2.2.2.2.1, x0.2.2.2.2.2.1, x0.2.2.2.2.2.2.1, x0.2.2.2.2.2.2.2), rfl, ((congrArg (fun q : Bool × MoN => (bI q.1, q.2)) (show F11_takesHour x0 x1 = (true, (x0.1, x0.2.1, ((x0.2.2.1 + 1) + 1), ((((10 : Int32) * ((F11_peek x0 x1) - (48 : Int32))) + (F11_peek (x0.1, x0.2.1, (x0.2.2.1 + 1), ((F11_peek x0 x1) - (48 : Int32)), x0.2.2.2.2.1, x0.2.2.2.2.2.1, x0.2.2.2.2.2.2.1, x0.2.2.2.2.2.2.2) x1)) - (48 : Int32)), x0.2.2.2.2.1, x0.2.2.2.2.2.1, x0.2.2.2.2.2.2.1, x0.2.2.2.2.2.2.2)) from Eq.trans (if_pos c1) (Eq.trans (if_neg c2) (Eq.trans (if_pos c3) (Eq.trans (if_pos c4) (rfl)))))).symm), by rw [ht]; exact hP, hD⟩, hS.F ht⟩) hS.2.2 dX11_takesHour_98
    · have c2 : ((F11_peek x0 x1) - (48 : Int32)) = (1 : Int32) := c2
      refine lv_aload_n hx hb dX11_takesHour_41 rfl (lv_at hl 0 rfl) ?_
      refine lv_iconst (v := (0 : Int32)) hx hb dX11_takesHour_42 (by decide) ?_
      refine lv_bipush (v := (9 : Int32)) hx hb dX11_takesHour_43 (by decide) ?_
      have hPc : va_P D vwCl (wF [gN b0 b1 b2 (x0.1, x0.2.1, (x0.2.2.1 + 1), ((F11_peek x0 x1) - (48 : Int32)), x0.2.2.2.2.1, x0.2.2.2.2.2.1, x0.2.2.2.2.2.2.1, x0.2.2.2.2.2.2.2), gI cI b2 100 x1]) H := hP.sub [0, 1] rfl
      refine c_Ri (va_runV (As := [.int (0 : Int32), .int (9 : Int32)]) (rest := []) ⟨hx, hb, hml, hown, hts⟩ (m11_isDigit l D cI cL cP b0 b1 b2 (x0.1, x0.2.1, (x0.2.2.1 + 1), ((F11_peek x0 x1) - (48 : Int32)), x0.2.2.2.2.1, x0.2.2.2.2.2.1, x0.2.2.2.2.2.2.1, x0.2.2.2.2.2.2.2) x1 (0 : Int32) (9 : Int32) (show (x0.2.2.1 + 1) ≤ x0.2.1 by omega) (show x0.2.1 ≤ 100 by omega) H) (cwV 2 hts gX11_takesHour_X11_isDigit rfl rfl rfl (by decide +kernel) ⟨Nat.le_of_ble_eq_true rfl, Nat.le_of_ble_eq_true rfl⟩) (preR_V (q := (RX11, TX11, 10)) (q0 := 0) hQ hPc rfl rfl) rfl rfl hl.1 rfl (lv_room (Nat.le_of_ble_eq_true rfl)) dX11_takesHour_45 ⟨Nat.le_of_ble_eq_true rfl, Nat.le_of_ble_eq_true rfl⟩) hS (fun locs hS => ?_)
      refine lv_if_ne (tgt := 68) hx hb dX11_takesHour_48 (by decide) (fun c5 => ?_) (fun c5 => ?_)
      · have c5 : (F11_isDigit (x0.1, x0.2.1, (x0.2.2.1 + 1), ((F11_peek x0 x1) - (48 : Int32)), x0.2.2.2.2.1, x0.2.2.2.2.2.1, x0.2.2.2.2.2.2.1, x0.2.2.2.2.2.2.2) x1 (0 : Int32) (9 : Int32)) = true := bI_1.mp c5
        have hrc5 := (dig_l c5).1
        refine lv_aload_n hx hb dX11_takesHour_68 rfl (lv_at hl 0 rfl) ?_
        refine lv_bipush (v := (10 : Int32)) hx hb dX11_takesHour_69 (by decide) ?_
        refine lv_aload_n hx hb dX11_takesHour_71 rfl (lv_at hl 0 rfl) ?_
        refine va_get (D := D) (ci := 11) (v := .int ((F11_peek x0 x1) - (48 : Int32))) (C := RX11) (T := TX11) (N := 10) hx hb hts hinX11 hown hQ.1 hP 0 rfl rfl 5 (by decide) (hts (.fieldLink RX11 214 "HeatPumpPlantModel" "number" "I") (List.mem_of_getElem? (i := 1) rfl)) (fun _ h9 => h9) rfl dX11_takesHour_72 ?_
        refine lv_imul hx hb dX11_takesHour_75 ?_
        refine lv_aload_n hx hb dX11_takesHour_76 rfl (lv_at hl 0 rfl) ?_
        have hPc : va_P D vwCl (wF [gN b0 b1 b2 (x0.1, x0.2.1, (x0.2.2.1 + 1), ((F11_peek x0 x1) - (48 : Int32)), x0.2.2.2.2.1, x0.2.2.2.2.2.1, x0.2.2.2.2.2.2.1, x0.2.2.2.2.2.2.2), gI cI b2 100 x1]) H := hP.sub [0, 1] rfl
        refine c_Ri (va_runV (As := []) (rest := [.int ((10 : Int32) * ((F11_peek x0 x1) - (48 : Int32))), .ref b0]) ⟨hx, hb, hml, hown, hts⟩ (m11_peek l D cI cL cP b0 b1 b2 (x0.1, x0.2.1, (x0.2.2.1 + 1), ((F11_peek x0 x1) - (48 : Int32)), x0.2.2.2.2.1, x0.2.2.2.2.2.1, x0.2.2.2.2.2.2.1, x0.2.2.2.2.2.2.2) x1 (show (x0.2.2.1 + 1) ≤ x0.2.1 by omega) (show x0.2.1 ≤ 100 by omega) H) (cwV 0 hts gX11_takesHour_X11_peek rfl rfl rfl (by decide +kernel) ⟨Nat.le_of_ble_eq_true rfl, Nat.le_of_ble_eq_true rfl⟩) (preR_V (q := (RX11, TX11, 10)) (q0 := 0) hQ hPc rfl rfl) rfl rfl hl.1 rfl (lv_room (Nat.le_of_ble_eq_true rfl)) dX11_takesHour_77 ⟨Nat.le_of_ble_eq_true rfl, Nat.le_of_ble_eq_true rfl⟩) hS (fun locs hS => ?_)
        refine lv_iadd hx hb dX11_takesHour_80 ?_
        refine lv_bipush (v := (48 : Int32)) hx hb dX11_takesHour_81 (by decide) ?_
        refine lv_isub hx hb dX11_takesHour_83 ?_
        refine va_put (D := D) (ci := 11) (v := .int ((((10 : Int32) * ((F11_peek x0 x1) - (48 : Int32))) + (F11_peek (x0.1, x0.2.1, (x0.2.2.1 + 1), ((F11_peek x0 x1) - (48 : Int32)), x0.2.2.2.2.1, x0.2.2.2.2.2.1, x0.2.2.2.2.2.2.1, x0.2.2.2.2.2.2.2) x1)) - (48 : Int32))) (ty := .int) (C := RX11) (T := TX11) (N := 10) hx hb hts hinX11 tyX11 tyX11_ok nmX11 hown hQ.1 hP hD hS 0 rfl rfl 5 (by decide) (hts (.fieldLink RX11 214 "HeatPumpPlantModel" "number" "I") (List.mem_of_getElem? (i := 1) rfl)) (fun _ h9 => h9) rfl (by decide +kernel) rfl rfl (Nat.le_of_ble_eq_true rfl) dX11_takesHour_84 (fun H locs hP hD hS => ?_)
        have hP : va_P D vwCl (wF [gN b0 b1 b2 (x0.1, x0.2.1, (x0.2.2.1 + 1), ((((10 : Int32) * ((F11_peek x0 x1) - (48 : Int32))) + (F11_peek (x0.1, x0.2.1, (x0.2.2.1 + 1), ((F11_peek x0 x1) - (48 : Int32)), x0.2.2.2.2.1, x0.2.2.2.2.2.1, x0.2.2.2.2.2.2.1, x0.2.2.2.2.2.2.2) x1)) - (48 : Int32)), x0.2.2.2.2.1, x0.2.2.2.2.2.1, x0.2.2.2.2.2.2.1, x0.2.2.2.2.2.2.2), gI cI b2 100 x1]) H := hP
        have hD : va_D A (wF [gN b0 b1 b2 (x0.1, x0.2.1, (x0.2.2.1 + 1), ((((10 : Int32) * ((F11_peek x0 x1) - (48 : Int32))) + (F11_peek (x0.1, x0.2.1, (x0.2.2.1 + 1), ((F11_peek x0 x1) - (48 : Int32)), x0.2.2.2.2.1, x0.2.2.2.2.2.1, x0.2.2.2.2.2.2.1, x0.2.2.2.2.2.2.2) x1)) - (48 : Int32)), x0.2.2.2.2.1, x0.2.2.2.2.2.1, x0.2.2.2.2.2.2.1, x0.2.2.2.2.2.2.2), gI cI b2 100 x1]) := hD
        refine lv_aload_n hx hb dX11_takesHour_87 rfl (lv_at hl 0 rfl) ?_
        refine lv_dup hx hb dX11_takesHour_88 rfl ?_
        refine va_get (D := D) (ci := 11) (v := .int (nI (x0.2.2.1 + 1))) (C := RX11) (T := TX11) (N := 10) hx hb hts hinX11 hown hQ.1 hP 0 rfl rfl 4 (by decide) (hts (.fieldLink RX11 204 "HeatPumpPlantModel" "at" "I") (List.mem_of_getElem? (i := 2) rfl)) (fun _ h9 => h9) rfl dX11_takesHour_89 ?_
        refine lv_iconst (v := (1 : Int32)) hx hb dX11_takesHour_92 (by decide) ?_
        refine lv_iadd hx hb dX11_takesHour_93 ?_
        refine va_put (D := D) (ci := 11) (v := .int ((nI (x0.2.2.1 + 1)) + (1 : Int32))) (ty := .int) (C := RX11) (T := TX11) (N := 10) hx hb hts hinX11 tyX11 tyX11_ok nmX11 hown hQ.1 hP hD hS 0 rfl rfl 4 (by decide) (hts (.fieldLink RX11 204 "HeatPumpPlantModel" "at" "I") (List.mem_of_getElem? (i := 2) rfl)) (fun _ h9 => h9) rfl (by decide +kernel) rfl rfl (Nat.le_of_ble_eq_true rfl) dX11_takesHour_94 (fun H locs hP hD hS => ?_)
        rw [show ((nI (x0.2.2.1 + 1)) + (1 : Int32)) = nI ((x0.2.2.1 + 1) + 1) from ((congr (congrArg HAdd.hAdd (show (nI (x0.2.2.1 + 1)) = nI (x0.2.2.1 + 1) from rfl)) (show (1 : Int32) = nI 1 from (rfl : (1 : Int32) = nI 1))).trans (nI_add (x0.2.2.1 + 1) 1))] at hP hD
        have hP : va_P D vwCl (wF [gN b0 b1 b2 (x0.1, x0.2.1, ((x0.2.2.1 + 1) + 1), ((((10 : Int32) * ((F11_peek x0 x1) - (48 : Int32))) + (F11_peek (x0.1, x0.2.1, (x0.2.2.1 + 1), ((F11_peek x0 x1) - (48 : Int32)), x0.2.2.2.2.1, x0.2.2.2.2.2.1, x0.2.2.2.2.2.2.1, x0.2.2.2.2.2.2.2) x1)) - (48 : Int32)), x0.2.2.2.2.1, x0.2.2.2.2.2.1, x0.2.2.2.2.2.2.1, x0.2.2.2.2.2.2.2), gI cI b2 100 x1]) H := hP
        have hD : va_D A (wF [gN b0 b1 b2 (x0.1, x0.2.1, ((x0.2.2.1 + 1) + 1), ((((10 : Int32) * ((F11_peek x0 x1) - (48 : Int32))) + (F11_peek (x0.1, x0.2.1, (x0.2.2.1 + 1), ((F11_peek x0 x1) - (48 : Int32)), x0.2.2.2.2.1, x0.2.2.2.2.2.1, x0.2.2.2.2.2.2.1, x0.2.2.2.2.2.2.2) x1)) - (48 : Int32)), x0.2.2.2.2.1, x0.2.2.2.2.2.1, x0.2.2.2.2.2.2.1, x0.2.2.2.2.2.2.2), gI cI b2 100 x1]) := hD
        refine lv_iconst (v := (1 : Int32)) hx hb dX11_takesHour_97 (by decide) ?_
        exact W.zret (v := (1 : Int32)) (ty := .boolean) hx hb hr rfl (fun t ht hW => ⟨⟨(1 : Int32), (x0.1, x0.2.1, ((x0.2.2.1 + 1) + 1), ((((10 : Int32) * ((F11_peek x0 x1) - (48 : Int32))) + (F11_peek (x0.1, x0.2.1, (x0.2.2.1 + 1), ((F11_peek x0 x1) - (48 : Int32)), x0.2.2.2.2.1, x0.2.2.2.2.2.1, x0.2.2.2.2.2.2.1, x0.2.2.2.2.2.2.2) x1)) - (48 : Int32)), x0.2.2.2.2.1, x0.2.2.2.2.2.1, x0.2.2.2.2.2.2.1, x0.2.2.2.2.2.2.2), rfl, ((congrArg (fun q : Bool × MoN => (bI q.1, q.2)) (show F11_takesHour x0 x1 = (true, (x0.1, x0.2.1, ((x0.2.2.1 + 1) + 1), ((((10 : Int32) * ((F11_peek x0 x1) - (48 : Int32))) + (F11_peek (x0.1, x0.2.1, (x0.2.2.1 + 1), ((F11_peek x0 x1) - (48 : Int32)), x0.2.2.2.2.1, x0.2.2.2.2.2.1, x0.2.2.2.2.2.2.1, x0.2.2.2.2.2.2.2) x1)) - (48 : Int32)), x0.2.2.2.2.1, x0.2.2.2.2.2.1, x0.2.2.2.2.2.2.1, x0.2.2.2.2.2.2.2)) from Eq.trans (if_pos c1) (Eq.trans (if_pos c2) (Eq.trans (if_pos c5) (rfl))))).symm), by rw [ht]; exact hP, hD⟩, hS.F ht⟩) hS.2.2 dX11_takesHour_98
      · have c5 : ¬ ((F11_isDigit (x0.1, x0.2.1, (x0.2.2.1 + 1), ((F11_peek x0 x1) - (48 : Int32)), x0.2.2.2.2.1, x0.2.2.2.2.2.1, x0.2.2.2.2.2.2.1, x0.2.2.2.2.2.2.2) x1 (0 : Int32) (9 : Int32)) = true) := bI_0.mp c5
        refine lv_aload_n hx hb dX11_takesHour_51 rfl (lv_at hl 0 rfl) ?_
        refine va_get (D := D) (ci := 11) (v := .int ((F11_peek x0 x1) - (48 : Int32))) (C := RX11) (T := TX11) (N := 10) hx hb hts hinX11 hown hQ.1 hP 0 rfl rfl 5 (by decide) (hts (.fieldLink RX11 214 "HeatPumpPlantModel" "number" "I") (List.mem_of_getElem? (i := 1) rfl)) (fun _ h9 => h9) rfl dX11_takesHour_52 ?_
        refine lv_iconst (v := (2 : Int32)) hx hb dX11_takesHour_55 (by decide) ?_
        refine lv_icmp_ne (tgt := 97) hx hb dX11_takesHour_56 (by decide) (fun c6 => ?_) (fun c6 => ?_)
        · have c6 : ¬ (((F11_peek x0 x1) - (48 : Int32)) = (2 : Int32)) := c6
          refine lv_iconst (v := (1 : Int32)) hx hb dX11_takesHour_97 (by decide) ?_
          exact W.zret (v := (1 : Int32)) (ty := .boolean) hx hb hr rfl (fun t ht hW => ⟨⟨(1 : Int32), (x0.1, x0.2.1, (x0.2.2.1 + 1), ((F11_peek x0 x1) - (48 : Int32)), x0.2.2.2.2.1, x0.2.2.2.2.2.1, x0.2.2.2.2.2.2.1, x0.2.2.2.2.2.2.2), rfl, ((congrArg (fun q : Bool × MoN => (bI q.1, q.2)) (show F11_takesHour x0 x1 = (true, (x0.1, x0.2.1, (x0.2.2.1 + 1), ((F11_peek x0 x1) - (48 : Int32)), x0.2.2.2.2.1, x0.2.2.2.2.2.1, x0.2.2.2.2.2.2.1, x0.2.2.2.2.2.2.2)) from Eq.trans (if_pos c1) (Eq.trans (if_pos c2) (Eq.trans (if_neg c5) (Eq.trans (if_neg c6) (rfl)))))).symm), by rw [ht]; exact hP, hD⟩, hS.F ht⟩) hS.2.2 dX11_takesHour_98
        · have c6 : ((F11_peek x0 x1) - (48 : Int32)) = (2 : Int32) := c6
          refine lv_aload_n hx hb dX11_takesHour_59 rfl (lv_at hl 0 rfl) ?_
          refine lv_iconst (v := (0 : Int32)) hx hb dX11_takesHour_60 (by decide) ?_
          refine lv_iconst (v := (3 : Int32)) hx hb dX11_takesHour_61 (by decide) ?_
          have hPc : va_P D vwCl (wF [gN b0 b1 b2 (x0.1, x0.2.1, (x0.2.2.1 + 1), ((F11_peek x0 x1) - (48 : Int32)), x0.2.2.2.2.1, x0.2.2.2.2.2.1, x0.2.2.2.2.2.2.1, x0.2.2.2.2.2.2.2), gI cI b2 100 x1]) H := hP.sub [0, 1] rfl
          refine c_Ri (va_runV (As := [.int (0 : Int32), .int (3 : Int32)]) (rest := []) ⟨hx, hb, hml, hown, hts⟩ (m11_isDigit l D cI cL cP b0 b1 b2 (x0.1, x0.2.1, (x0.2.2.1 + 1), ((F11_peek x0 x1) - (48 : Int32)), x0.2.2.2.2.1, x0.2.2.2.2.2.1, x0.2.2.2.2.2.2.1, x0.2.2.2.2.2.2.2) x1 (0 : Int32) (3 : Int32) (show (x0.2.2.1 + 1) ≤ x0.2.1 by omega) (show x0.2.1 ≤ 100 by omega) H) (cwV 2 hts gX11_takesHour_X11_isDigit rfl rfl rfl (by decide +kernel) ⟨Nat.le_of_ble_eq_true rfl, Nat.le_of_ble_eq_true rfl⟩) (preR_V (q := (RX11, TX11, 10)) (q0 := 0) hQ hPc rfl rfl) rfl rfl hl.1 rfl (lv_room (Nat.le_of_ble_eq_true rfl)) dX11_takesHour_62 ⟨Nat.le_of_ble_eq_true rfl, Nat.le_of_ble_eq_true rfl⟩) hS (fun locs hS => ?_)
          refine lv_if_eq (tgt := 97) hx hb dX11_takesHour_65 (by decide) (fun c7 => ?_) (fun c7 => ?_)
          · have c7 : ¬ ((F11_isDigit (x0.1, x0.2.1, (x0.2.2.1 + 1), ((F11_peek x0 x1) - (48 : Int32)), x0.2.2.2.2.1, x0.2.2.2.2.2.1, x0.2.2.2.2.2.2.1, x0.2.2.2.2.2.2.2) x1 (0 : Int32) (3 : Int32)) = true) := bI_0.mp c7
            refine lv_iconst (v := (1 : Int32)) hx hb dX11_takesHour_97 (by decide) ?_
            exact W.zret (v := (1 : Int32)) (ty := .boolean) hx hb hr rfl (fun t ht hW => ⟨⟨(1 : Int32), (x0.1, x0.2.1, (x0.2.2.1 + 1), ((F11_peek x0 x1) - (48 : Int32)), x0.2.2.2.2.1, x0.2.2.2.2.2.1, x0.2.2.2.2.2.2.1, x0.2.2.2.2.2.2.2), rfl, ((congrArg (fun q : Bool × MoN => (bI q.1, q.2)) (show F11_takesHour x0 x1 = (true, (x0.1, x0.2.1, (x0.2.2.1 + 1), ((F11_peek x0 x1) - (48 : Int32)), x0.2.2.2.2.1, x0.2.2.2.2.2.1, x0.2.2.2.2.2.2.1, x0.2.2.2.2.2.2.2)) from Eq.trans (if_pos c1) (Eq.trans (if_pos c2) (Eq.trans (if_neg c5) (Eq.trans (if_pos c6) (Eq.trans (if_neg c7) (rfl))))))).symm), by rw [ht]; exact hP, hD⟩, hS.F ht⟩) hS.2.2 dX11_takesHour_98
          · have c7 : (F11_isDigit (x0.1, x0.2.1, (x0.2.2.1 + 1), ((F11_peek x0 x1) - (48 : Int32)), x0.2.2.2.2.1, x0.2.2.2.2.2.1, x0.2.2.2.2.2.2.1, x0.2.2.2.2.2.2.2) x1 (0 : Int32) (3 : Int32)) = true := bI_1.mp c7
            have hrc7 := (dig_l c7).1
            refine lv_aload_n hx hb dX11_takesHour_68 rfl (lv_at hl 0 rfl) ?_
            refine lv_bipush (v := (10 : Int32)) hx hb dX11_takesHour_69 (by decide) ?_
            refine lv_aload_n hx hb dX11_takesHour_71 rfl (lv_at hl 0 rfl) ?_
            refine va_get (D := D) (ci := 11) (v := .int ((F11_peek x0 x1) - (48 : Int32))) (C := RX11) (T := TX11) (N := 10) hx hb hts hinX11 hown hQ.1 hP 0 rfl rfl 5 (by decide) (hts (.fieldLink RX11 214 "HeatPumpPlantModel" "number" "I") (List.mem_of_getElem? (i := 1) rfl)) (fun _ h9 => h9) rfl dX11_takesHour_72 ?_
            refine lv_imul hx hb dX11_takesHour_75 ?_
            refine lv_aload_n hx hb dX11_takesHour_76 rfl (lv_at hl 0 rfl) ?_
            have hPc : va_P D vwCl (wF [gN b0 b1 b2 (x0.1, x0.2.1, (x0.2.2.1 + 1), ((F11_peek x0 x1) - (48 : Int32)), x0.2.2.2.2.1, x0.2.2.2.2.2.1, x0.2.2.2.2.2.2.1, x0.2.2.2.2.2.2.2), gI cI b2 100 x1]) H := hP.sub [0, 1] rfl
            refine c_Ri (va_runV (As := []) (rest := [.int ((10 : Int32) * ((F11_peek x0 x1) - (48 : Int32))), .ref b0]) ⟨hx, hb, hml, hown, hts⟩ (m11_peek l D cI cL cP b0 b1 b2 (x0.1, x0.2.1, (x0.2.2.1 + 1), ((F11_peek x0 x1) - (48 : Int32)), x0.2.2.2.2.1, x0.2.2.2.2.2.1, x0.2.2.2.2.2.2.1, x0.2.2.2.2.2.2.2) x1 (show (x0.2.2.1 + 1) ≤ x0.2.1 by omega) (show x0.2.1 ≤ 100 by omega) H) (cwV 0 hts gX11_takesHour_X11_peek rfl rfl rfl (by decide +kernel) ⟨Nat.le_of_ble_eq_true rfl, Nat.le_of_ble_eq_true rfl⟩) (preR_V (q := (RX11, TX11, 10)) (q0 := 0) hQ hPc rfl rfl) rfl rfl hl.1 rfl (lv_room (Nat.le_of_ble_eq_true rfl)) dX11_takesHour_77 ⟨Nat.le_of_ble_eq_true rfl, Nat.le_of_ble_eq_true rfl⟩) hS (fun locs hS => ?_)
            refine lv_iadd hx hb dX11_takesHour_80 ?_
            refine lv_bipush (v := (48 : Int32)) hx hb dX11_takesHour_81 (by decide) ?_
            refine lv_isub hx hb dX11_takesHour_83 ?_
            refine va_put (D := D) (ci := 11) (v := .int ((((10 : Int32) * ((F11_peek x0 x1) - (48 : Int32))) + (F11_peek (x0.1, x0.2.1, (x0.2.2.1 + 1), ((F11_peek x0 x1) - (48 : Int32)), x0.2.2.2.2.1, x0.2.2.2.2.2.1, x0.2.2.2.2.2.2.1, x0.2.2.2.2.2.2.2) x1)) - (48 : Int32))) (ty := .int) (C := RX11) (T := TX11) (N := 10) hx hb hts hinX11 tyX11 tyX11_ok nmX11 hown hQ.1 hP hD hS 0 rfl rfl 5 (by decide) (hts (.fieldLink RX11 214 "HeatPumpPlantModel" "number" "I") (List.mem_of_getElem? (i := 1) rfl)) (fun _ h9 => h9) rfl (by decide +kernel) rfl rfl (Nat.le_of_ble_eq_true rfl) dX11_takesHour_84 (fun H locs hP hD hS => ?_)
            have hP : va_P D vwCl (wF [gN b0 b1 b2 (x0.1, x0.2.1, (x0.2.2.1 + 1), ((((10 : Int32) * ((F11_peek x0 x1) - (48 : Int32))) + (F11_peek (x0.1, x0.2.1, (x0.2.2.1 + 1), ((F11_peek x0 x1) - (48 : Int32)), x0.2.2.2.2.1, x0.2.2.2.2.2.1, x0.2.2.2.2.2.2.1, x0.2.2.2.2.2.2.2) x1)) - (48 : Int32)), x0.2.2.2.2.1, x0.2.2.2.2.2.1, x0.2.2.2.2.2.2.1, x0.2.2.2.2.2.2.2), gI cI b2 100 x1]) H := hP
            have hD : va_D A (wF [gN b0 b1 b2 (x0.1, x0.2.1, (x0.2.2.1 + 1), ((((10 : Int32) * ((F11_peek x0 x1) - (48 : Int32))) + (F11_peek (x0.1, x0.2.1, (x0.2.2.1 + 1), ((F11_peek x0 x1) - (48 : Int32)), x0.2.2.2.2.1, x0.2.2.2.2.2.1, x0.2.2.2.2.2.2.1, x0.2.2.2.2.2.2.2) x1)) - (48 : Int32)), x0.2.2.2.2.1, x0.2.2.2.2.2.1, x0.2.2.2.2.2.2.1, x0.2.2.2.2.2.2.2), gI cI b2 100 x1]) := hD
            refine lv_aload_n hx hb dX11_takesHour_87 rfl (lv_at hl 0 rfl) ?_
            refine lv_dup hx hb dX11_takesHour_88 rfl ?_
            refine va_get (D := D) (ci := 11) (v := .int (nI (x0.2.2.1 + 1))) (C := RX11) (T := TX11) (N := 10) hx hb hts hinX11 hown hQ.1 hP 0 rfl rfl 4 (by decide) (hts (.fieldLink RX11 204 "HeatPumpPlantModel" "at" "I") (List.mem_of_getElem? (i := 2) rfl)) (fun _ h9 => h9) rfl dX11_takesHour_89 ?_
            refine lv_iconst (v := (1 : Int32)) hx hb dX11_takesHour_92 (by decide) ?_
            refine lv_iadd hx hb dX11_takesHour_93 ?_
            refine va_put (D := D) (ci := 11) (v := .int ((nI (x0.2.2.1 + 1)) + (1 : Int32))) (ty := .int) (C := RX11) (T := TX11) (N := 10) hx hb hts hinX11 tyX11 tyX11_ok nmX11 hown hQ.1 hP hD hS 0 rfl rfl 4 (by decide) (hts (.fieldLink RX11 204 "HeatPumpPlantModel" "at" "I") (List.mem_of_getElem? (i := 2) rfl)) (fun _ h9 => h9) rfl (by decide +kernel) rfl rfl (Nat.le_of_ble_eq_true rfl) dX11_takesHour_94 (fun H locs hP hD hS => ?_)
            rw [show ((nI (x0.2.2.1 + 1)) + (1 : Int32)) = nI ((x0.2.2.1 + 1) + 1) from ((congr (congrArg HAdd.hAdd (show (nI (x0.2.2.1 + 1)) = nI (x0.2.2.1 + 1) from rfl)) (show (1 : Int32) = nI 1 from (rfl : (1 : Int32) = nI 1))).trans (nI_add (x0.2.2.1 + 1) 1))] at hP hD
            have hP : va_P D vwCl (wF [gN b0 b1 b2 (x0.1, x0.2.1, ((x0.2.2.1 + 1) + 1), ((((10 : Int32) * ((F11_peek x0 x1) - (48 : Int32))) + (F11_peek (x0.1, x0.2.1, (x0.2.2.1 + 1), ((F11_peek x0 x1) - (48 : Int32)), x0.2.2.2.2.1, x0.2.2.2.2.2.1, x0.2.2.2.2.2.2.1, x0.2.2.2.2.2.2.2) x1)) - (48 : Int32)), x0.2.2.2.2.1, x0.2.2.2.2.2.1, x0.2.2.2.2.2.2.1, x0.2.2.2.2.2.2.2), gI cI b2 100 x1]) H := hP
            have hD : va_D A (wF [gN b0 b1 b2 (x0.1, x0.2.1, ((x0.2.2.1 + 1) + 1), ((((10 : Int32) * ((F11_peek x0 x1) - (48 : Int32))) + (F11_peek (x0.1, x0.2.1, (x0.2.2.1 + 1), ((F11_peek x0 x1) - (48 : Int32)), x0.2.2.2.2.1, x0.2.2.2.2.2.1, x0.2.2.2.2.2.2.1, x0.2.2.2.2.2.2.2) x1)) - (48 : Int32)), x0.2.2.2.2.1, x0.2.2.2.2.2.1, x0.2.2.2.2.2.2.1, x0.2.2.2.2.2.2.2), gI cI b2 100 x1]) := hD
            refine lv_iconst (v := (1 : Int32)) hx hb dX11_takesHour_97 (by decide) ?_
            exact W.zret (v := (1 : Int32)) (ty := .boolean) hx hb hr rfl (fun t ht hW => ⟨⟨(1 : Int32), (x0.1, x0.2.1, ((x0.2.2.1 + 1) + 1), ((((10 : Int32) * ((F11_peek x0 x1) - (48 : Int32))) + (F11_peek (x0.1, x0.2.1, (x0.2.2.1 + 1), ((F11_peek x0 x1) - (48 : Int32)), x0.2.2.2.2.1, x0.2.2.2.2.2.1, x0.2.2.2.2.2.2.1, x0.2.2.2.2.2.2.2) x1)) - (48 : Int32)), x0.2.2.2.2.1, x0.2.2.2.2.2.1, x0.2.2.2.2.2.2.1, x0.2.2.2.2.2.2.2), rfl, ((congrArg (fun q : Bool × MoN => (bI q.1, q.2)) (show F11_takesHour x0 x1 = (true, (x0.1, x0.2.1, ((x0.2.2.1 + 1) + 1), ((((10 : Int32) * ((F11_peek x0 x1) - (48 : Int32))) + (F11_peek (x0.1, x0.2.1, (x0.2.2.1 + 1), ((F11_peek x0 x1) - (48 : Int32)), x0.2.2.2.2.1, x0.2.2.2.2.2.1, x0.2.2.2.2.2.2.1, x0.2.2.2.2.2.2.2) x1)) - (48 : Int32)), x0.2.2.2.2.1, x0.2.2.2.2.2.1, x0.2.2.2.2.2.2.1, x0.2.2.2.2.2.2.2)) from Eq.trans (if_pos c1) (Eq.trans (if_pos c2) (Eq.trans (if_neg c5) (Eq.trans (if_pos c6) (Eq.trans (if_pos c7) (rfl))))))).symm), by rw [ht]; exact hP, hD⟩, hS.F ht⟩) hS.2.2 dX11_takesHour_98
  · have c1 : ¬ ((F11_isDigit x0 x1 (0 : Int32) (9 : Int32)) = true) := bI_0.mp c1
    refine lv_iconst (v := (0 : Int32)) hx hb dX11_takesHour_10 (by decide) ?_
    exact W.zret (v := (0 : Int32)) (ty := .boolean) hx hb hr rfl (fun t ht hW => ⟨⟨(0 : Int32), x0, rfl, ((congrArg (fun q : Bool × MoN => (bI q.1, q.2)) (show F11_takesHour x0 x1 = (false, x0) from Eq.trans (if_neg c1) (rfl))).symm), by rw [ht]; exact hP, hD⟩, hS.F ht⟩) hS.2.2 dX11_takesHour_11
def L11_takesDegrees_42 (x0 : MoN) (x1 : SS) (z1 : Bool × MoN) : Nat → Nat → MoN → Nat × MoN
  | 0, _, _ => default
  | fu + 1, i, x => (if 3 ≤ i then (i, x) else (if x.2.2.2.1 ≤ (0 : Int32) then (i, x) else (if (F11_isDigit x x1 (0 : Int32) (9 : Int32)) = true then ((L11_takesDegrees_42 x0 x1 z1 fu) (i + 1) (x.1, x.2.1, (x.2.2.1 + 1), ((((10 : Int32) * x.2.2.2.1) + (F11_peek x x1)) - (48 : Int32)), x.2.2.2.2.1, x.2.2.2.2.2.1, x.2.2.2.2.2.2.1, x.2.2.2.2.2.2.2)) else (i, x))))
def K11_takesDegrees_2 (x0 : MoN) (x1 : SS) (z1 : Bool × MoN) (z6 : Nat × MoN) : Bool × MoN := (true, (z6.2.1, z6.2.2.1, z6.2.2.2.1, z6.2.2.2.2.1, z6.2.2.2.2.2.1, z6.2.2.2.2.2.2.1, (if z1.1 = true then (-z6.2.2.2.2.1) else z6.2.2.2.2.1), z6.2.2.2.2.2.2.2.2))
def K11_takesDegrees_1 (x0 : MoN) (x1 : SS) (z1 : Bool × MoN) : Bool × MoN := (if (F11_isDigit z1.2 x1 (0 : Int32) (9 : Int32)) = true then (K11_takesDegrees_2 x0 x1 z1 (L11_takesDegrees_42 x0 x1 z1 4 1 (z1.2.1, z1.2.2.1, (z1.2.2.2.1 + 1), ((F11_peek z1.2 x1) - (48 : Int32)), z1.2.2.2.2.2.1, z1.2.2.2.2.2.2.1, z1.2.2.2.2.2.2.2.1, z1.2.2.2.2.2.2.2.2))) else (false, z1.2))
def F11_takesDegrees (x0 : MoN) (x1 : SS) : Bool × MoN := (K11_takesDegrees_1 x0 x1 (F11_takes x0 x1 (45 : Int32)))
set_option maxHeartbeats 4000000 in
set_option maxRecDepth 100000 in
theorem m11_takesDegrees (l : Launch) (D : va_G) (cI cL cP : ClassId) (b0 : Nat) (b1 : Nat) (b2 : Nat) (x0 : MoN) (x1 : SS) (hat : x0.2.2.1 ≤ x0.2.1) (hlen : x0.2.1 ≤ 100) (sz : Nat) : Met l yX11_takesDegrees wsX11_takesDegrees ({ frames := 2, cells := 0, slots := 0, locals := 47 }) (va_Pc [.ref b0] (pM D cI cL cP sz (wF [gN b0 b1 b2 x0, gI cI b2 100 x1]))) (va_Qi (fun (r : Int32) (w : MoN) => (r, w) = (bI (F11_takesDegrees x0 x1).1, (F11_takesDegrees x0 x1).2)) (qW D (va_A (wF [gN b0 b1 b2 x0, gI cI b2 100 x1]) sz) (fun w : MoN => (wF [gN b0 b1 b2 w, gI cI b2 100 x1]))) (va_A (wF [gN b0 b1 b2 x0, gI cI b2 100 x1]) sz)) 0 0 (va_A (wF [gN b0 b1 b2 x0, gI cI b2 100 x1]) sz) := by
  refine Met.ofW (cc := cX11_takesDegrees) (maxL := 3) (ret := (some .boolean)) (by decide) rfl ?_
  intro p e s m args below meth c s₁ B hml hv
  obtain ⟨rfl, hsz, hP, hQ, hD0⟩ := hv
  have hx := B.exec
  have hb := B.bytes
  have hr := B.returns
  have hts := atoms_spec (ws := wsX11_takesDegrees) B.pre
  have hown : s.vm.findClass RX11 = some m.cls := findClass_of_methodNamed B.named
  have hlocks := B.notSynchronized
  subst hsz
  have hD := hD0.self (sz := s.heap.size)
  generalize hAe : va_A (wF [gN b0 b1 b2 x0, gI cI b2 100 x1]) s.heap.size = A at hD ⊢
  have hA : ∀ q : Nat, s.heap.size ≤ q → A q := fun q h => by rw [← hAe]; exact Or.inr h
  have hS : va_S A s.heap s.heap [] := va_S.rf
  have hP : va_P D vwCl (wF [gN b0 b1 b2 x0, gI cI b2 100 x1]) s.heap := hP
  have hl := lv_entry ([.ref b0]) (n := 3) (Nat.le_of_ble_eq_true rfl)
  rw [lg_entry_eq]
  generalize (lg_sl ([.ref b0]) ++ List.replicate (3 - (lg_sl ([.ref b0])).length) Slot.unset).toArray = ls at hl ⊢
  have hl : lv_has ls 3 [(0, .ref b0)] := hl
  have hinX11 : ∀ w ∈ wsX110, w ∈ wsX11_takesDegrees := fun _ h => List.mem_cons_of_mem _ (List.mem_append_right _ h)
  refine lv_aload_n hx hb dX11_takesDegrees_0 rfl (lv_at hl 0 rfl) ?_
  refine lv_bipush (v := (45 : Int32)) hx hb dX11_takesDegrees_1 (by decide) ?_
  have hPc : va_P D vwCl (wF [gN b0 b1 b2 x0, gI cI b2 100 x1]) s.heap := w_psub hP [0, 1] rfl
  have hDc : va_D A (wF [gN b0 b1 b2 x0, gI cI b2 100 x1]) := w_gsub hD [0, 1] rfl rfl
  refine c_Mz (F := F11_takes x0 x1 (45 : Int32)) (G1 := (fun w => [gN b0 b1 b2 w, gI cI b2 100 x1])) (Gr := []) (Gs' := fun z1 => [gN b0 b1 b2 z1.2, gI cI b2 100 x1]) (va_runV (As := [.int (45 : Int32)]) (rest := []) ⟨hx, hb, hml, hown, hts⟩ (m11_takes l D cI cL cP b0 b1 b2 x0 x1 (45 : Int32) (show x0.2.2.1 ≤ x0.2.1 by omega) (show x0.2.1 ≤ 100 by omega) s.heap.size) (cwV 1 hts gX11_takesDegrees_X11_takes rfl rfl rfl (by decide +kernel) ⟨Nat.le_of_ble_eq_true rfl, Nat.le_of_ble_eq_true rfl⟩) (preM_V (q := (RX11, TX11, 10)) (q0 := 0) hQ hPc hDc rfl rfl) rfl rfl hl.1 rfl (lv_room (Nat.le_of_ble_eq_true rfl)) dX11_takesDegrees_3 ⟨Nat.le_of_ble_eq_true rfl, Nat.le_of_ble_eq_true rfl⟩) hS hA hP hD [0, 1] [] [0, 1] rfl rfl rfl rfl rfl (fun _ => rfl) (fun z1 H locs hz1 hP hD hS => ?_)
  have hP : va_P D vwCl (wF [gN b0 b1 b2 z1.2, gI cI b2 100 x1]) H := hP
  have hD : va_D A (wF [gN b0 b1 b2 z1.2, gI cI b2 100 x1]) := hD
  have htk_z1 : tOk x0 z1.2 := by rw [hz1]; exact takes_ok (show x0.2.2.1 ≤ x0.2.1 by omega) (by decide)
  have hta_z1 : z1.2.2.2.1 ≤ z1.2.2.1 := htk_z1.2.2.2
  have htl_z1 : z1.2.2.1 = x0.2.1 := htk_z1.2.1
  have htm_z1 : x0.2.2.1 ≤ z1.2.2.2.1 := htk_z1.2.2.1
  refine lv_istore_n (lv' := [(1, .int (bI z1.1)), (0, .ref b0)]) hx hb dX11_takesDegrees_6 rfl hl (by decide) rfl (fun ls hl => ?_)
  refine lv_aload_n hx hb dX11_takesDegrees_7 rfl (lv_at hl 1 rfl) ?_
  refine lv_iconst (v := (0 : Int32)) hx hb dX11_takesDegrees_8 (by decide) ?_
  refine lv_bipush (v := (9 : Int32)) hx hb dX11_takesDegrees_9 (by decide) ?_
  have hPc : va_P D vwCl (wF [gN b0 b1 b2 z1.2, gI cI b2 100 x1]) H := hP.sub [0, 1] rfl
  refine c_Ri (va_runV (As := [.int (0 : Int32), .int (9 : Int32)]) (rest := []) ⟨hx, hb, hml, hown, hts⟩ (m11_isDigit l D cI cL cP b0 b1 b2 z1.2 x1 (0 : Int32) (9 : Int32) (show z1.2.2.2.1 ≤ z1.2.2.1 by omega) (show z1.2.2.1 ≤ 100 by omega) H) (cwV 2 hts gX11_takesDegrees_X11_isDigit rfl rfl rfl (by decide +kernel) ⟨Nat.le_of_ble_eq_true rfl, Nat.le_of_ble_eq_true rfl⟩) (preR_V (q := (RX11, TX11, 10)) (q0 := 0) hQ hPc rfl rfl) rfl rfl hl.1 rfl (lv_room (Nat.le_of_ble_eq_true rfl)) dX11_takesDegrees_11 ⟨Nat.le_of_ble_eq_true rfl, Nat.le_of_ble_eq_true rfl⟩) hS (fun locs hS => ?_)
  refine lv_if_ne (tgt := 19) hx hb dX11_takesDegrees_14 (by decide) (fun c2 => ?_) (fun c2 => ?_)
  · have c2 : (F11_isDigit z1.2 x1 (0 : Int32) (9 : Int32)) = true := bI_1.mp c2
    have hrc2 := (dig_l c2).1
    refine lv_aload_n hx hb dX11_takesDegrees_19 rfl (lv_at hl 1 rfl) ?_
    refine lv_aload_n hx hb dX11_takesDegrees_20 rfl (lv_at hl 1 rfl) ?_
    have hPc : va_P D vwCl (wF [gN b0 b1 b2 z1.2, gI cI b2 100 x1]) H := hP.sub [0, 1] rfl
    refine c_Ri (va_runV (As := []) (rest := [.ref b0]) ⟨hx, hb, hml, hown, hts⟩ (m11_peek l D cI cL cP b0 b1 b2 z1.2 x1 (show z1.2.2.2.1 ≤ z1.2.2.1 by omega) (show z1.2.2.1 ≤ 100 by omega) H) (cwV 0 hts gX11_takesDegrees_X11_peek rfl rfl rfl (by decide +kernel) ⟨Nat.le_of_ble_eq_true rfl, Nat.le_of_ble_eq_true rfl⟩) (preR_V (q := (RX11, TX11, 10)) (q0 := 0) hQ hPc rfl rfl) rfl rfl hl.1 rfl (lv_room (Nat.le_of_ble_eq_true rfl)) dX11_takesDegrees_21 ⟨Nat.le_of_ble_eq_true rfl, Nat.le_of_ble_eq_true rfl⟩) hS (fun locs hS => ?_)
    refine lv_bipush (v := (48 : Int32)) hx hb dX11_takesDegrees_24 (by decide) ?_
    refine lv_isub hx hb dX11_takesDegrees_26 ?_
    refine va_put (D := D) (ci := 11) (v := .int ((F11_peek z1.2 x1) - (48 : Int32))) (ty := .int) (C := RX11) (T := TX11) (N := 10) hx hb hts hinX11 tyX11 tyX11_ok nmX11 hown hQ.1 hP hD hS 0 rfl rfl 5 (by decide) (hts (.fieldLink RX11 214 "HeatPumpPlantModel" "number" "I") (List.mem_of_getElem? (i := 1) rfl)) (fun _ h9 => h9) rfl (by decide +kernel) rfl rfl (Nat.le_of_ble_eq_true rfl) dX11_takesDegrees_27 (fun H locs hP hD hS => ?_)
    have hP : va_P D vwCl (wF [gN b0 b1 b2 (z1.2.1, z1.2.2.1, z1.2.2.2.1, ((F11_peek z1.2 x1) - (48 : Int32)), z1.2.2.2.2.2.1, z1.2.2.2.2.2.2.1, z1.2.2.2.2.2.2.2.1, z1.2.2.2.2.2.2.2.2), gI cI b2 100 x1]) H := hP
    have hD : va_D A (wF [gN b0 b1 b2 (z1.2.1, z1.2.2.1, z1.2.2.2.1, ((F11_peek z1.2 x1) - (48 : Int32)), z1.2.2.2.2.2.1, z1.2.2.2.2.2.2.1, z1.2.2.2.2.2.2.2.1, z1.2.2.2.2.2.2.2.2), gI cI b2 100 x1]) := hD
    refine lv_aload_n hx hb dX11_takesDegrees_30 rfl (lv_at hl 1 rfl) ?_
    refine lv_dup hx hb dX11_takesDegrees_31 rfl ?_
    refine va_get (D := D) (ci := 11) (v := .int (nI z1.2.2.2.1)) (C := RX11) (T := TX11) (N := 10) hx hb hts hinX11 hown hQ.1 hP 0 rfl rfl 4 (by decide) (hts (.fieldLink RX11 204 "HeatPumpPlantModel" "at" "I") (List.mem_of_getElem? (i := 2) rfl)) (fun _ h9 => h9) rfl dX11_takesDegrees_32 ?_
    refine lv_iconst (v := (1 : Int32)) hx hb dX11_takesDegrees_35 (by decide) ?_
    refine lv_iadd hx hb dX11_takesDegrees_36 ?_
    refine va_put (D := D) (ci := 11) (v := .int ((nI z1.2.2.2.1) + (1 : Int32))) (ty := .int) (C := RX11) (T := TX11) (N := 10) hx hb hts hinX11 tyX11 tyX11_ok nmX11 hown hQ.1 hP hD hS 0 rfl rfl 4 (by decide) (hts (.fieldLink RX11 204 "HeatPumpPlantModel" "at" "I") (List.mem_of_getElem? (i := 2) rfl)) (fun _ h9 => h9) rfl (by decide +kernel) rfl rfl (Nat.le_of_ble_eq_true rfl) dX11_takesDegrees_37 (fun H locs hP hD hS => ?_)
    rw [show ((nI z1.2.2.2.1) + (1 : Int32)) = nI (z1.2.2.2.1 + 1) from ((congr (congrArg HAdd.hAdd (show (nI z1.2.2.2.1) = nI z1.2.2.2.1 from rfl)) (show (1 : Int32) = nI 1 from (rfl : (1 : Int32) = nI 1))).trans (nI_add z1.2.2.2.1 1))] at hP hD
    have hP : va_P D vwCl (wF [gN b0 b1 b2 (z1.2.1, z1.2.2.1, (z1.2.2.2.1 + 1), ((F11_peek z1.2 x1) - (48 : Int32)), z1.2.2.2.2.2.1, z1.2.2.2.2.2.2.1, z1.2.2.2.2.2.2.2.1, z1.2.2.2.2.2.2.2.2), gI cI b2 100 x1]) H := hP
    have hD : va_D A (wF [gN b0 b1 b2 (z1.2.1, z1.2.2.1, (z1.2.2.2.1 + 1), ((F11_peek z1.2 x1) - (48 : Int32)), z1.2.2.2.2.2.1, z1.2.2.2.2.2.2.1, z1.2.2.2.2.2.2.2.1, z1.2.2.2.2.2.2.2.2), gI cI b2 100 x1]) := hD
    refine lv_iconst (v := (1 : Int32)) hx hb dX11_takesDegrees_40 (by decide) ?_
    refine lv_istore_n (lv' := [(2, .int (1 : Int32)), (1, .int (bI z1.1)), (0, .ref b0)]) hx hb dX11_takesDegrees_41 rfl hl (by decide) rfl (fun ls hl => ?_)
    have loop42 : ∀ (fu : Nat) (i : Nat) (x : MoN) (hi : i ≤ 3) (hxa : x.2.2.1 ≤ x.2.1) (hxl : x.2.1 ≤ 100) (hm : 3 - i < fu) (kk : ∀ z : Nat × MoN, z = L11_takesDegrees_42 x0 x1 z1 fu i x → ((z.1) ≤ 3) → ((z.2).2.2.1 ≤ (z.2).2.1) → ((z.2).2.1 ≤ 100) → ∀ (H : Heap) (locs : List Loc) (_ : va_P D vwCl (wF [gN b0 b1 b2 z.2, gI cI b2 100 x1]) H) (_ : va_D A (wF [gN b0 b1 b2 z.2, gI cI b2 100 x1])) (_ : va_S A s.heap H locs) (ls : Array Slot) (_ : lv_has ls 3 [(2, .int (nI z.1)), (1, .int (bI z1.1)), (0, .ref b0)]), W p l e (headSpec wsX11_takesDegrees ({ frames := 2, cells := 0, slots := 0, locals := 47 })).room s m #[.ref b0] below meth c H locs 0 0 (MQ below (va_Qi (fun (r : Int32) (w : MoN) => (r, w) = (bI (F11_takesDegrees x0 x1).1, (F11_takesDegrees x0 x1).2)) (qW D A (fun w : MoN => (wF [gN b0 b1 b2 w, gI cI b2 100 x1]))) A) #[.ref b0] s 0 0 A) (F0 m 99 ls [])), ∀ (H : Heap) (locs : List Loc) (_ : va_P D vwCl (wF [gN b0 b1 b2 x, gI cI b2 100 x1]) H) (_ : va_D A (wF [gN b0 b1 b2 x, gI cI b2 100 x1])) (_ : va_S A s.heap H locs) (ls : Array Slot) (_ : lv_has ls 3 [(2, .int (nI i)), (1, .int (bI z1.1)), (0, .ref b0)]), W p l e (headSpec wsX11_takesDegrees ({ frames := 2, cells := 0, slots := 0, locals := 47 })).room s m #[.ref b0] below meth c H locs 0 0 (MQ below (va_Qi (fun (r : Int32) (w : MoN) => (r, w) = (bI (F11_takesDegrees x0 x1).1, (F11_takesDegrees x0 x1).2)) (qW D A (fun w : MoN => (wF [gN b0 b1 b2 w, gI cI b2 100 x1]))) A) #[.ref b0] s 0 0 A) (F0 m 42 ls []) := by
      intro fu
      induction fu with
      | zero => intro i x hi hxa hxl hm; exact absurd hm (by omega)
      | succ fu ih =>
        intro i x hi hxa hxl hm kk H locs hP hD hS ls hl
        refine lv_iload_n hx hb dX11_takesDegrees_42 rfl (lv_at hl 0 rfl) ?_
        refine lv_iconst (v := (3 : Int32)) hx hb dX11_takesDegrees_43 (by decide) ?_
        refine lv_icmp_ge (tgt := 99) hx hb dX11_takesDegrees_44 (by decide) (fun c3 => ?_) (fun c3 => ?_)
        · have c3 : 3 ≤ i := (nI_leI (a := 3) (b := i) (by omega) (by omega)).mp c3
          exact kk (i, x) ((Eq.trans (if_pos c3) (rfl)).symm) hi hxa hxl H locs hP hD hS ls (lv_sub hl [0, 1, 2] rfl)
        · have c3 : ¬ (3 ≤ i) := fun h9 => c3 ((nI_leI (a := 3) (b := i) (by omega) (by omega)).mpr h9)
          refine lv_aload_n hx hb dX11_takesDegrees_47 rfl (lv_at hl 2 rfl) ?_
          refine va_get (D := D) (ci := 11) (v := .int x.2.2.2.1) (C := RX11) (T := TX11) (N := 10) hx hb hts hinX11 hown hQ.1 hP 0 rfl rfl 5 (by decide) (hts (.fieldLink RX11 214 "HeatPumpPlantModel" "number" "I") (List.mem_of_getElem? (i := 1) rfl)) (fun _ h9 => h9) rfl dX11_takesDegrees_48 ?_
          refine lv_if_le (tgt := 99) hx hb dX11_takesDegrees_51 (by decide) (fun c4 => ?_) (fun c4 => ?_)
          · have c4 : x.2.2.2.1 ≤ (0 : Int32) := c4
            exact kk (i, x) ((Eq.trans (if_neg c3) (Eq.trans (if_pos c4) (rfl))).symm) hi hxa hxl H locs hP hD hS ls (lv_sub hl [0, 1, 2] rfl)
          · have c4 : ¬ (x.2.2.2.1 ≤ (0 : Int32)) := c4
            refine lv_aload_n hx hb dX11_takesDegrees_54 rfl (lv_at hl 2 rfl) ?_
            refine lv_iconst (v := (0 : Int32)) hx hb dX11_takesDegrees_55 (by decide) ?_
            refine lv_bipush (v := (9 : Int32)) hx hb dX11_takesDegrees_56 (by decide) ?_
            have hPc : va_P D vwCl (wF [gN b0 b1 b2 x, gI cI b2 100 x1]) H := hP.sub [0, 1] rfl
            refine c_Ri (va_runV (As := [.int (0 : Int32), .int (9 : Int32)]) (rest := []) ⟨hx, hb, hml, hown, hts⟩ (m11_isDigit l D cI cL cP b0 b1 b2 x x1 (0 : Int32) (9 : Int32) (show x.2.2.1 ≤ x.2.1 by omega) (show x.2.1 ≤ 100 by omega) H) (cwV 2 hts gX11_takesDegrees_X11_isDigit rfl rfl rfl (by decide +kernel) ⟨Nat.le_of_ble_eq_true rfl, Nat.le_of_ble_eq_true rfl⟩) (preR_V (q := (RX11, TX11, 10)) (q0 := 0) hQ hPc rfl rfl) rfl rfl hl.1 rfl (lv_room (Nat.le_of_ble_eq_true rfl)) dX11_takesDegrees_58 ⟨Nat.le_of_ble_eq_true rfl, Nat.le_of_ble_eq_true rfl⟩) hS (fun locs hS => ?_)
            refine lv_if_eq (tgt := 99) hx hb dX11_takesDegrees_61 (by decide) (fun c5 => ?_) (fun c5 => ?_)
            · have c5 : ¬ ((F11_isDigit x x1 (0 : Int32) (9 : Int32)) = true) := bI_0.mp c5
              exact kk (i, x) ((Eq.trans (if_neg c3) (Eq.trans (if_neg c4) (Eq.trans (if_neg c5) (rfl)))).symm) hi hxa hxl H locs hP hD hS ls (lv_sub hl [0, 1, 2] rfl)
            · have c5 : (F11_isDigit x x1 (0 : Int32) (9 : Int32)) = true := bI_1.mp c5
              have hrc5 := (dig_l c5).1
              refine lv_aload_n hx hb dX11_takesDegrees_64 rfl (lv_at hl 2 rfl) ?_
              refine lv_bipush (v := (10 : Int32)) hx hb dX11_takesDegrees_65 (by decide) ?_
              refine lv_aload_n hx hb dX11_takesDegrees_67 rfl (lv_at hl 2 rfl) ?_
              refine va_get (D := D) (ci := 11) (v := .int x.2.2.2.1) (C := RX11) (T := TX11) (N := 10) hx hb hts hinX11 hown hQ.1 hP 0 rfl rfl 5 (by decide) (hts (.fieldLink RX11 214 "HeatPumpPlantModel" "number" "I") (List.mem_of_getElem? (i := 1) rfl)) (fun _ h9 => h9) rfl dX11_takesDegrees_68 ?_
              refine lv_imul hx hb dX11_takesDegrees_71 ?_
              refine lv_aload_n hx hb dX11_takesDegrees_72 rfl (lv_at hl 2 rfl) ?_
              have hPc : va_P D vwCl (wF [gN b0 b1 b2 x, gI cI b2 100 x1]) H := hP.sub [0, 1] rfl
              refine c_Ri (va_runV (As := []) (rest := [.int ((10 : Int32) * x.2.2.2.1), .ref b0]) ⟨hx, hb, hml, hown, hts⟩ (m11_peek l D cI cL cP b0 b1 b2 x x1 (show x.2.2.1 ≤ x.2.1 by omega) (show x.2.1 ≤ 100 by omega) H) (cwV 0 hts gX11_takesDegrees_X11_peek rfl rfl rfl (by decide +kernel) ⟨Nat.le_of_ble_eq_true rfl, Nat.le_of_ble_eq_true rfl⟩) (preR_V (q := (RX11, TX11, 10)) (q0 := 0) hQ hPc rfl rfl) rfl rfl hl.1 rfl (lv_room (Nat.le_of_ble_eq_true rfl)) dX11_takesDegrees_73 ⟨Nat.le_of_ble_eq_true rfl, Nat.le_of_ble_eq_true rfl⟩) hS (fun locs hS => ?_)
              refine lv_iadd hx hb dX11_takesDegrees_76 ?_
              refine lv_bipush (v := (48 : Int32)) hx hb dX11_takesDegrees_77 (by decide) ?_
              refine lv_isub hx hb dX11_takesDegrees_79 ?_
              refine va_put (D := D) (ci := 11) (v := .int ((((10 : Int32) * x.2.2.2.1) + (F11_peek x x1)) - (48 : Int32))) (ty := .int) (C := RX11) (T := TX11) (N := 10) hx hb hts hinX11 tyX11 tyX11_ok nmX11 hown hQ.1 hP hD hS 0 rfl rfl 5 (by decide) (hts (.fieldLink RX11 214 "HeatPumpPlantModel" "number" "I") (List.mem_of_getElem? (i := 1) rfl)) (fun _ h9 => h9) rfl (by decide +kernel) rfl rfl (Nat.le_of_ble_eq_true rfl) dX11_takesDegrees_80 (fun H locs hP hD hS => ?_)
              have hP : va_P D vwCl (wF [gN b0 b1 b2 (x.1, x.2.1, x.2.2.1, ((((10 : Int32) * x.2.2.2.1) + (F11_peek x x1)) - (48 : Int32)), x.2.2.2.2.1, x.2.2.2.2.2.1, x.2.2.2.2.2.2.1, x.2.2.2.2.2.2.2), gI cI b2 100 x1]) H := hP
              have hD : va_D A (wF [gN b0 b1 b2 (x.1, x.2.1, x.2.2.1, ((((10 : Int32) * x.2.2.2.1) + (F11_peek x x1)) - (48 : Int32)), x.2.2.2.2.1, x.2.2.2.2.2.1, x.2.2.2.2.2.2.1, x.2.2.2.2.2.2.2), gI cI b2 100 x1]) := hD
              refine lv_aload_n hx hb dX11_takesDegrees_83 rfl (lv_at hl 2 rfl) ?_
              refine lv_dup hx hb dX11_takesDegrees_84 rfl ?_
              refine va_get (D := D) (ci := 11) (v := .int (nI x.2.2.1)) (C := RX11) (T := TX11) (N := 10) hx hb hts hinX11 hown hQ.1 hP 0 rfl rfl 4 (by decide) (hts (.fieldLink RX11 204 "HeatPumpPlantModel" "at" "I") (List.mem_of_getElem? (i := 2) rfl)) (fun _ h9 => h9) rfl dX11_takesDegrees_85 ?_
              refine lv_iconst (v := (1 : Int32)) hx hb dX11_takesDegrees_88 (by decide) ?_
              refine lv_iadd hx hb dX11_takesDegrees_89 ?_
              refine va_put (D := D) (ci := 11) (v := .int ((nI x.2.2.1) + (1 : Int32))) (ty := .int) (C := RX11) (T := TX11) (N := 10) hx hb hts hinX11 tyX11 tyX11_ok nmX11 hown hQ.1 hP hD hS 0 rfl rfl 4 (by decide) (hts (.fieldLink RX11 204 "HeatPumpPlantModel" "at" "I") (List.mem_of_getElem? (i := 2) rfl)) (fun _ h9 => h9) rfl (by decide +kernel) rfl rfl (Nat.le_of_ble_eq_true rfl) dX11_takesDegrees_90 (fun H locs hP hD hS => ?_)
              rw [show ((nI x.2.2.1) + (1 : Int32)) = nI (x.2.2.1 + 1) from ((congr (congrArg HAdd.hAdd (show (nI x.2.2.1) = nI x.2.2.1 from rfl)) (show (1 : Int32) = nI 1 from (rfl : (1 : Int32) = nI 1))).trans (nI_add x.2.2.1 1))] at hP hD
              have hP : va_P D vwCl (wF [gN b0 b1 b2 (x.1, x.2.1, (x.2.2.1 + 1), ((((10 : Int32) * x.2.2.2.1) + (F11_peek x x1)) - (48 : Int32)), x.2.2.2.2.1, x.2.2.2.2.2.1, x.2.2.2.2.2.2.1, x.2.2.2.2.2.2.2), gI cI b2 100 x1]) H := hP
              have hD : va_D A (wF [gN b0 b1 b2 (x.1, x.2.1, (x.2.2.1 + 1), ((((10 : Int32) * x.2.2.2.1) + (F11_peek x x1)) - (48 : Int32)), x.2.2.2.2.1, x.2.2.2.2.2.1, x.2.2.2.2.2.2.1, x.2.2.2.2.2.2.2), gI cI b2 100 x1]) := hD
              refine lv_iinc (v := (nI (i + 1))) (lv' := [(2, .int (nI (i + 1))), (1, .int (bI z1.1)), (0, .ref b0)]) hx hb dX11_takesDegrees_93 hl (k := 0) rfl (nI_add i 1) (by decide) rfl (fun ls hl => ?_)
              refine lv_goto (tgt := 42) hx hb dX11_takesDegrees_96 (by decide) ?_
              have hP : va_P D vwCl (wF [gN b0 b1 b2 (x.1, x.2.1, (x.2.2.1 + 1), ((((10 : Int32) * x.2.2.2.1) + (F11_peek x x1)) - (48 : Int32)), x.2.2.2.2.1, x.2.2.2.2.2.1, x.2.2.2.2.2.2.1, x.2.2.2.2.2.2.2), gI cI b2 100 x1]) H := hP
              have hD : va_D A (wF [gN b0 b1 b2 (x.1, x.2.1, (x.2.2.1 + 1), ((((10 : Int32) * x.2.2.2.1) + (F11_peek x x1)) - (48 : Int32)), x.2.2.2.2.1, x.2.2.2.2.2.1, x.2.2.2.2.2.2.1, x.2.2.2.2.2.2.2), gI cI b2 100 x1]) := hD
              exact ih (i + 1) (x.1, x.2.1, (x.2.2.1 + 1), ((((10 : Int32) * x.2.2.2.1) + (F11_peek x x1)) - (48 : Int32)), x.2.2.2.2.1, x.2.2.2.2.2.1, x.2.2.2.2.2.2.1, x.2.2.2.2.2.2.2) (by omega) ((show (x.2.2.1 + 1) ≤ x.2.1 by omega)) ((show x.2.1 ≤ 100 by omega)) (by omega) (fun z hz => kk z (hz.trans ((Eq.trans (if_neg c3) (Eq.trans (if_neg c4) (Eq.trans (if_pos c5) (rfl)))).symm))) H locs hP hD hS ls (lv_sub hl [0, 1, 2] rfl)
    have hP : va_P D vwCl (wF [gN b0 b1 b2 (z1.2.1, z1.2.2.1, (z1.2.2.2.1 + 1), ((F11_peek z1.2 x1) - (48 : Int32)), z1.2.2.2.2.2.1, z1.2.2.2.2.2.2.1, z1.2.2.2.2.2.2.2.1, z1.2.2.2.2.2.2.2.2), gI cI b2 100 x1]) H := hP
    have hD : va_D A (wF [gN b0 b1 b2 (z1.2.1, z1.2.2.1, (z1.2.2.2.1 + 1), ((F11_peek z1.2 x1) - (48 : Int32)), z1.2.2.2.2.2.1, z1.2.2.2.2.2.2.1, z1.2.2.2.2.2.2.2.1, z1.2.2.2.2.2.2.2.2), gI cI b2 100 x1]) := hD
    refine loop42 4 1 (z1.2.1, z1.2.2.1, (z1.2.2.2.1 + 1), ((F11_peek z1.2 x1) - (48 : Int32)), z1.2.2.2.2.2.1, z1.2.2.2.2.2.2.1, z1.2.2.2.2.2.2.2.1, z1.2.2.2.2.2.2.2.2) (by omega) ((show (z1.2.2.2.1 + 1) ≤ z1.2.2.1 by omega)) ((show z1.2.2.1 ≤ 100 by omega)) (by omega) (fun z6 hz6 hi_z6 hxa_z6 hxl_z6 H locs hP hD hS ls hl => ?_) H locs hP hD hS ls (lv_sub hl [0, 1, 2] rfl)
    refine lv_aload_n hx hb dX11_takesDegrees_99 rfl (lv_at hl 2 rfl) ?_
    refine lv_iload_n hx hb dX11_takesDegrees_100 rfl (lv_at hl 1 rfl) ?_
    refine w_diaI (rest := [.ref b0]) (K := z1.1 = true) 116 (-z6.2.2.2.2.1) z6.2.2.2.2.1 (fun kt kf => ?_) ?_
    · refine lv_if_eq (tgt := 112) hx hb dX11_takesDegrees_101 (by decide) (fun c7 => ?_) (fun c7 => ?_)
      · have c7 : ¬ (z1.1 = true) := bI_0.mp c7
        refine lv_aload_n hx hb dX11_takesDegrees_112 rfl (lv_at hl 2 rfl) ?_
        refine va_get (D := D) (ci := 11) (v := .int z6.2.2.2.2.1) (C := RX11) (T := TX11) (N := 10) hx hb hts hinX11 hown hQ.1 hP 0 rfl rfl 5 (by decide) (hts (.fieldLink RX11 214 "HeatPumpPlantModel" "number" "I") (List.mem_of_getElem? (i := 1) rfl)) (fun _ h9 => h9) rfl dX11_takesDegrees_113 ?_
        exact kf c7
      · have c7 : z1.1 = true := bI_1.mp c7
        refine lv_aload_n hx hb dX11_takesDegrees_104 rfl (lv_at hl 2 rfl) ?_
        refine va_get (D := D) (ci := 11) (v := .int z6.2.2.2.2.1) (C := RX11) (T := TX11) (N := 10) hx hb hts hinX11 hown hQ.1 hP 0 rfl rfl 5 (by decide) (hts (.fieldLink RX11 214 "HeatPumpPlantModel" "number" "I") (List.mem_of_getElem? (i := 1) rfl)) (fun _ h9 => h9) rfl dX11_takesDegrees_105 ?_
        refine lv_ineg hx hb dX11_takesDegrees_108 ?_
        refine lv_goto (tgt := 116) hx hb dX11_takesDegrees_109 (by decide) ?_
        exact kt c7
    refine va_put (D := D) (ci := 11) (v := .int (if z1.1 = true then (-z6.2.2.2.2.1) else z6.2.2.2.2.1)) (ty := .int) (C := RX11) (T := TX11) (N := 10) hx hb hts hinX11 tyX11 tyX11_ok nmX11 hown hQ.1 hP hD hS 0 rfl rfl 8 (by decide) (hts (.fieldLink RX11 220 "HeatPumpPlantModel" "degrees" "I") (List.mem_of_getElem? (i := 3) rfl)) (fun _ h9 => h9) rfl (by decide +kernel) rfl rfl (Nat.le_of_ble_eq_true rfl) dX11_takesDegrees_116 (fun H locs hP hD hS => ?_)
    have hP : va_P D vwCl (wF [gN b0 b1 b2 (z6.2.1, z6.2.2.1, z6.2.2.2.1, z6.2.2.2.2.1, z6.2.2.2.2.2.1, z6.2.2.2.2.2.2.1, (if z1.1 = true then (-z6.2.2.2.2.1) else z6.2.2.2.2.1), z6.2.2.2.2.2.2.2.2), gI cI b2 100 x1]) H := hP
    have hD : va_D A (wF [gN b0 b1 b2 (z6.2.1, z6.2.2.1, z6.2.2.2.1, z6.2.2.2.2.1, z6.2.2.2.2.2.1, z6.2.2.2.2.2.2.1, (if z1.1 = true then (-z6.2.2.2.2.1) else z6.2.2.2.2.1), z6.2.2.2.2.2.2.2.2), gI cI b2 100 x1]) := hD
    refine lv_iconst (v := (1 : Int32)) hx hb dX11_takesDegrees_119 (by decide) ?_
    exact W.zret (v := (1 : Int32)) (ty := .boolean) hx hb hr rfl (fun t ht hW => ⟨⟨(1 : Int32), (z6.2.1, z6.2.2.1, z6.2.2.2.1, z6.2.2.2.2.1, z6.2.2.2.2.2.1, z6.2.2.2.2.2.2.1, (if z1.1 = true then (-z6.2.2.2.2.1) else z6.2.2.2.2.1), z6.2.2.2.2.2.2.2.2), rfl, ((congrArg (fun q : Bool × MoN => (bI q.1, q.2)) (show F11_takesDegrees x0 x1 = (true, (z6.2.1, z6.2.2.1, z6.2.2.2.1, z6.2.2.2.2.1, z6.2.2.2.2.2.1, z6.2.2.2.2.2.2.1, (if z1.1 = true then (-z6.2.2.2.2.1) else z6.2.2.2.2.1), z6.2.2.2.2.2.2.2.2)) from Eq.trans (congrArg (K11_takesDegrees_1 x0 x1) hz1.symm) (Eq.trans (if_pos c2) (Eq.trans (congrArg (K11_takesDegrees_2 x0 x1 z1) hz6.symm) (rfl))))).symm), by rw [ht]; exact hP, hD⟩, hS.F ht⟩) hS.2.2 dX11_takesDegrees_120
  · have c2 : ¬ ((F11_isDigit z1.2 x1 (0 : Int32) (9 : Int32)) = true) := bI_0.mp c2
    refine lv_iconst (v := (0 : Int32)) hx hb dX11_takesDegrees_17 (by decide) ?_
    exact W.zret (v := (0 : Int32)) (ty := .boolean) hx hb hr rfl (fun t ht hW => ⟨⟨(0 : Int32), z1.2, rfl, ((congrArg (fun q : Bool × MoN => (bI q.1, q.2)) (show F11_takesDegrees x0 x1 = (false, z1.2) from Eq.trans (congrArg (K11_takesDegrees_1 x0 x1) hz1.symm) (Eq.trans (if_neg c2) (rfl)))).symm), by rw [ht]; exact hP, hD⟩, hS.F ht⟩) hS.2.2 dX11_takesDegrees_18
