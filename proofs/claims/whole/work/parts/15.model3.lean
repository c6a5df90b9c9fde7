theorem ron_n (x1 : Nat → Int64) (p1 : Int64) : ¬ F11_ruleOn x1 p1 < 0 := by
  unfold F11_ruleOn
  repeat' split
  all_goals decide
theorem ron_l (x1 : Nat → Int64) (p1 : Int64) : (F11_ruleOn x1 p1).toNatClampNeg < 12 := by
  unfold F11_ruleOn
  repeat' split
  all_goals decide
theorem rof_n (x0 : MoN) (x1 : Nat → Int64) (p1 p2 : Int64) : ¬ F11_ruleOff x0 x1 p1 p2 < 0 := by
  unfold F11_ruleOff
  repeat' split
  all_goals decide
theorem rof_l (x0 : MoN) (x1 : Nat → Int64) (p1 p2 : Int64) : (F11_ruleOff x0 x1 p1 p2).toNatClampNeg < 12 := by
  unfold F11_ruleOff
  repeat' split
  all_goals decide
def F11_rule (x0 : MoN) (x1 : Nat → Int64) (p1 p2 : Int64) : Int32 := (if (x1 86) = (2 : Int64) then (0 : Int32) else (if (x1 86) = (1 : Int64) then (F11_ruleOn x1 p1) else (F11_ruleOff x0 x1 p1 p2)))
theorem rul_n (x0 : MoN) (x1 : Nat → Int64) (p1 p2 : Int64) : ¬ F11_rule x0 x1 p1 p2 < 0 := by
  unfold F11_rule
  repeat' split
  · decide
  · exact ron_n _ _
  · exact rof_n _ _ _ _
theorem rul_l (x0 : MoN) (x1 : Nat → Int64) (p1 p2 : Int64) : (F11_rule x0 x1 p1 p2).toNatClampNeg < 12 := by
  unfold F11_rule
  repeat' split
  · decide
  · exact ron_l _ _
  · exact rof_l _ _ _ _
/-! times -/
def nT (x : Int64) : Nat := x.toInt.toNat
theorem nT_b (x : Int64) : nT x < 2 ^ 63 := by
  have h := Int64.toInt_lt x
  unfold nT
  omega
theorem nT_l {x : Int64} (h : 0 ≤ x.toInt) : x = lN (nT x) := by
  have h1 : ¬ x < 0 := by
    rw [Int64.lt_iff_toInt_lt, show (0 : Int64).toInt = 0 from by decide]
    omega
  obtain ⟨k, hk, e⟩ := pk_lOf h1
  unfold nT
  rw [e, pk_lT hk]
  rfl
theorem w_nTi {x : Int64} (h : 0 ≤ x.toInt) : x.toInt32 = nI (nT x) := by
  have e := nT_l h
  generalize nT x = k at e
  rw [e, lN_i]
theorem w_t60 {x : Int64} (h : 0 ≤ x.toInt) : (x - x / (60 : Int64) * (60 : Int64)).toInt32 = nI (nT x % 60) := by
  have e := nT_l h
  have hk := nT_b x
  generalize nT x = k at e hk
  rw [e, show (60 : Int64) = lN 60 from rfl, pk_lRem hk (by decide) (by decide), lN_i]
theorem w_h24 {x : Int64} (h : 0 ≤ x.toInt) : (x / (60 : Int64) - x / (60 : Int64) / (24 : Int64) * (24 : Int64)).toInt32 = nI (nT x / 60 % 24) := by
  have e := nT_l h
  have hk := nT_b x
  generalize nT x = k at e hk
  rw [e, show (60 : Int64) = lN 60 from rfl, show (24 : Int64) = lN 24 from rfl, pk_lDiv hk (by decide) (by decide), pk_lRem (Nat.lt_of_le_of_lt (Nat.div_le_self _ _) hk) (by decide) (by decide), lN_i]
theorem w_ge100 {x : Int64} (h : (100 : Int64) ≤ x) : ¬ x = 0 := by
  intro e
  rw [e] at h
  exact absurd h (by decide)
theorem w_ro {f : Nat → Int64} {j k : Nat} {w : Int64} (h : j ≠ k) : vp_updL f k w j = f j := w_rd h rfl
theorem w_ne {f : Nat → Int64} {j k : Nat} {w : Int64} (h : j ≠ k) (h2 : ¬ f j = 0) : ¬ vp_updL f k w j = 0 := by
  rw [w_ro h]
  exact h2
/-- what a minute needs of the row -/
def mP (f : Nat → Int64) : Prop := (1 ≤ (f 68).toInt ∧ (f 68).toInt ≤ 6) ∧ (∀ j, j < 24 → 0 ≤ (f (41 + j)).toInt ∧ (f (41 + j)).toInt ≤ 2) ∧ (¬ f 81 = 0) ∧ (0 ≤ (f 91).toInt)
theorem nT_le {x : Int64} {n : Nat} (h : x.toInt ≤ (n : Int)) : nT x ≤ n := by
  unfold nT
  omega
/-- what stays through the steps of a minute -/
def kp (j : Nat) : Prop := j ≤ 81 ∨ j = 91 ∨ 174 ≤ j
def mOe (f g : Nat → Int64) : Prop := ∀ j, (j ≤ 81 ∨ j = 91 ∨ 174 ≤ j) → g j = f j
theorem mOe.u {f g : Nat → Int64} (h : mOe f g) {k : Nat} (hk : ¬ (k ≤ 81 ∨ k = 91 ∨ 174 ≤ k)) (w : Int64) : mOe f (vp_updL g k w) := fun j hj => by
  have hne : j ≠ k := by
    intro e
    subst e
    exact hk hj
  rw [w_ro hne]
  exact h j hj
theorem mOe.r {f : Nat → Int64} : mOe f f := fun _ _ => rfl
theorem mOe.t {f g h : Nat → Int64} (h1 : mOe f g) (h2 : mOe g h) : mOe f h := fun j hj => (h2 j hj).trans (h1 j hj)
theorem mOe.n {f g : Nat → Int64} (h : mOe f g) (h2 : ¬ f 81 = 0) : ¬ g 81 = 0 := by
  rw [h 81 (by omega)]
  exact h2
theorem mOe.p {f g : Nat → Int64} (h : mOe f g) (h2 : mP f) : mP g := by
  obtain ⟨a, b, c, d⟩ := h2
  refine ⟨?_, fun j hj => ?_, ?_, ?_⟩
  · rw [h 68 (by omega)]; exact a
  · rw [h (41 + j) (by omega)]; exact b j hj
  · rw [h 81 (by omega)]; exact c
  · rw [h 91 (by omega)]; exact d
def F11_decides (x1 : (Nat → Int64)) (p1 : Nat) : (Nat → Int64) := (if p1 = 1 then (vp_updL (vp_updL (vp_updL (vp_updL (vp_updL x1 92 ((nI p1).toInt64)) (93 + p1) ((x1 (93 + p1)) + (1 : Int64))) (114 + (nT (x1 91) % 60)) (if p1 = 11 then (1 : Int64) else (0 : Int64))) 86 (0 : Int64)) 88 (0 : Int64)) else (if p1 = 3 then (vp_updL (vp_updL (vp_updL (vp_updL (vp_updL x1 92 ((nI p1).toInt64)) (93 + p1) ((x1 (93 + p1)) + (1 : Int64))) (114 + (nT (x1 91) % 60)) (if p1 = 11 then (1 : Int64) else (0 : Int64))) 86 (0 : Int64)) 88 (0 : Int64)) else (if p1 = 4 then (vp_updL (vp_updL (vp_updL (vp_updL (vp_updL (vp_updL x1 92 ((nI p1).toInt64)) (93 + p1) ((x1 (93 + p1)) + (1 : Int64))) (114 + (nT (x1 91) % 60)) (if p1 = 11 then (1 : Int64) else (0 : Int64))) 86 (2 : Int64)) 90 (x1 91)) 106 ((x1 106) + (1 : Int64))) else (if p1 = 11 then (vp_updL (vp_updL (vp_updL (vp_updL (vp_updL (vp_updL x1 92 ((nI p1).toInt64)) (93 + p1) ((x1 (93 + p1)) + (1 : Int64))) (114 + (nT (x1 91) % 60)) (if p1 = 11 then (1 : Int64) else (0 : Int64))) 86 (1 : Int64)) 87 (0 : Int64)) 105 ((x1 105) + (1 : Int64))) else (vp_updL (vp_updL (vp_updL x1 92 ((nI p1).toInt64)) (93 + p1) ((x1 (93 + p1)) + (1 : Int64))) (114 + (nT (x1 91) % 60)) (if p1 = 11 then (1 : Int64) else (0 : Int64)))))))
set_option maxHeartbeats 4000000 in
set_option maxRecDepth 100000 in
theorem m11_decides (l : Launch) (D : va_G) (cI cL cP : ClassId) (b0 : Nat) (b1 : Nat) (b2 : Nat) (x0 : MoN) (x1 : (Nat → Int64)) (p1 : Nat) (hp : p1 < 12) (ht : 0 ≤ (x1 91).toInt) (sz : Nat) : Met l yX11_decides wsX11_decides ({ frames := 0, cells := 0, slots := 0, locals := 0 }) (va_Pc [.ref b0, .int (nI p1)] (pM D cI cL cP sz (wF [gN b0 b2 b1 x0, gR cL b2 x1]))) (va_Qv (fun (w : (Nat → Int64)) => w = F11_decides x1 p1) (qW D (va_A (wF [gN b0 b2 b1 x0, gR cL b2 x1]) sz) (fun w : (Nat → Int64) => (wF [gN b0 b2 b1 x0, gR cL b2 w]))) (va_A (wF [gN b0 b2 b1 x0, gR cL b2 x1]) sz)) 0 0 (va_A (wF [gN b0 b2 b1 x0, gR cL b2 x1]) sz) := by
  refine Met.ofW (cc := cX11_decides) (maxL := 2) (ret := none) (by decide) rfl ?_
  intro p e s m args below meth c s₁ B hml hv
  obtain ⟨rfl, hsz, hP, hQ, hD0⟩ := hv
  have hx := B.exec
  have hb := B.bytes
  have hr := B.returns
  have hts := atoms_spec (ws := wsX11_decides) B.pre
  have hown : s.vm.findClass RX11 = some m.cls := findClass_of_methodNamed B.named
  have hlocks := B.notSynchronized
  subst hsz
  have hD := hD0.self (sz := s.heap.size)
  generalize hAe : va_A (wF [gN b0 b2 b1 x0, gR cL b2 x1]) s.heap.size = A at hD ⊢
  have hA : ∀ q : Nat, s.heap.size ≤ q → A q := fun q h => by rw [← hAe]; exact Or.inr h
  have hS : va_S A s.heap s.heap [] := va_S.rf
  have hP : va_P D vwCl (wF [gN b0 b2 b1 x0, gR cL b2 x1]) s.heap := hP
  have hl := lv_entry ([.ref b0, .int (nI p1)]) (n := 2) (Nat.le_of_ble_eq_true rfl)
  rw [lg_entry_eq]
  generalize (lg_sl ([.ref b0, .int (nI p1)]) ++ List.replicate (2 - (lg_sl ([.ref b0, .int (nI p1)])).length) Slot.unset).toArray = ls at hl ⊢
  have hl : lv_has ls 2 [(0, .ref b0), (1, .int (nI p1))] := hl
  have hinX11 : ∀ w ∈ wsX110, w ∈ wsX11_decides := fun _ h => List.mem_cons_of_mem _ (List.mem_append_right _ h)
  refine lv_aload_n hx hb dX11_decides_0 rfl (lv_at hl 0 rfl) ?_
  refine va_get (D := D) (ci := 11) (v := .ref b2) (C := RX11) (T := TX11) (N := 10) hx hb hts hinX11 hown hQ.1 hP 0 rfl rfl 0 (by decide) (hts (.fieldLink RX11 7 "HeatPumpPlantModel" "row" "[J") (List.mem_of_getElem? (i := 1) rfl)) (fun _ h9 => h9) rfl dX11_decides_1 ?_
  refine lv_bipush (v := (92 : Int32)) hx hb dX11_decides_4 (by decide) ?_
  refine lv_iload_n hx hb dX11_decides_6 rfl (lv_at hl 1 rfl) ?_
  refine lv_i2l hx hb dX11_decides_7 rfl ?_
  refine w_last (f := x1) (j := 92) hx hb hQ.1 hP hD hS 1 1 rfl rfl (rfl : (92 : Int32) = nI 92) (by omega) (by decide) dX11_decides_8 (fun H locs hP hD hS => ?_)
  have hP : va_P D vwCl (wF [gN b0 b2 b1 x0, gR cL b2 (vp_updL x1 92 ((nI p1).toInt64))]) H := hP
  have hD : va_D A (wF [gN b0 b2 b1 x0, gR cL b2 (vp_updL x1 92 ((nI p1).toInt64))]) := hD
  refine lv_aload_n hx hb dX11_decides_9 rfl (lv_at hl 0 rfl) ?_
  refine va_get (D := D) (ci := 11) (v := .ref b2) (C := RX11) (T := TX11) (N := 10) hx hb hts hinX11 hown hQ.1 hP 0 rfl rfl 0 (by decide) (hts (.fieldLink RX11 7 "HeatPumpPlantModel" "row" "[J") (List.mem_of_getElem? (i := 1) rfl)) (fun _ h9 => h9) rfl dX11_decides_10 ?_
  refine lv_bipush (v := (93 : Int32)) hx hb dX11_decides_13 (by decide) ?_
  refine lv_iload_n hx hb dX11_decides_15 rfl (lv_at hl 1 rfl) ?_
  refine lv_iadd hx hb dX11_decides_16 ?_
  refine lv_dup2_11 hx hb dX11_decides_17 rfl rfl ?_
  refine w_lald (f := (vp_updL x1 92 ((nI p1).toInt64))) (j := (93 + p1)) hx hb hQ.1 hP 1 1 rfl rfl ((congr (congrArg HAdd.hAdd (show (93 : Int32) = nI 93 from (rfl : (93 : Int32) = nI 93))) (show (nI p1) = nI p1 from rfl)).trans (nI_add 93 p1)) (by omega) (by decide) dX11_decides_18 ?_
  refine w_topL (show ((vp_updL x1 92 ((nI p1).toInt64)) (93 + p1)) = (x1 (93 + p1)) from (w_rd (by omega) rfl)) ?_
  refine lv_lconst (v := (1 : Int64)) hx hb dX11_decides_19 rfl ?_
  refine lv_ladd hx hb dX11_decides_20 ?_
  refine w_last (f := (vp_updL x1 92 ((nI p1).toInt64))) (j := (93 + p1)) hx hb hQ.1 hP hD hS 1 1 rfl rfl ((congr (congrArg HAdd.hAdd (show (93 : Int32) = nI 93 from (rfl : (93 : Int32) = nI 93))) (show (nI p1) = nI p1 from rfl)).trans (nI_add 93 p1)) (by omega) (by decide) dX11_decides_21 (fun H locs hP hD hS => ?_)
  have hP : va_P D vwCl (wF [gN b0 b2 b1 x0, gR cL b2 (vp_updL (vp_updL x1 92 ((nI p1).toInt64)) (93 + p1) ((x1 (93 + p1)) + (1 : Int64)))]) H := hP
  have hD : va_D A (wF [gN b0 b2 b1 x0, gR cL b2 (vp_updL (vp_updL x1 92 ((nI p1).toInt64)) (93 + p1) ((x1 (93 + p1)) + (1 : Int64)))]) := hD
  refine lv_aload_n hx hb dX11_decides_22 rfl (lv_at hl 0 rfl) ?_
  refine va_get (D := D) (ci := 11) (v := .ref b2) (C := RX11) (T := TX11) (N := 10) hx hb hts hinX11 hown hQ.1 hP 0 rfl rfl 0 (by decide) (hts (.fieldLink RX11 7 "HeatPumpPlantModel" "row" "[J") (List.mem_of_getElem? (i := 1) rfl)) (fun _ h9 => h9) rfl dX11_decides_23 ?_
  refine lv_bipush (v := (114 : Int32)) hx hb dX11_decides_26 (by decide) ?_
  refine lv_aload_n hx hb dX11_decides_28 rfl (lv_at hl 0 rfl) ?_
  refine va_get (D := D) (ci := 11) (v := .ref b2) (C := RX11) (T := TX11) (N := 10) hx hb hts hinX11 hown hQ.1 hP 0 rfl rfl 0 (by decide) (hts (.fieldLink RX11 7 "HeatPumpPlantModel" "row" "[J") (List.mem_of_getElem? (i := 1) rfl)) (fun _ h9 => h9) rfl dX11_decides_29 ?_
  refine lv_bipush (v := (91 : Int32)) hx hb dX11_decides_32 (by decide) ?_
  refine w_lald (f := (vp_updL (vp_updL x1 92 ((nI p1).toInt64)) (93 + p1) ((x1 (93 + p1)) + (1 : Int64)))) (j := 91) hx hb hQ.1 hP 1 1 rfl rfl (rfl : (91 : Int32) = nI 91) (by omega) (by decide) dX11_decides_34 ?_
  refine w_topL (show ((vp_updL (vp_updL x1 92 ((nI p1).toInt64)) (93 + p1) ((x1 (93 + p1)) + (1 : Int64))) 91) = (x1 91) from (w_rd (by omega) (w_rd (by omega) rfl))) ?_
  refine lv_ldc2 (own := RX11) (index := 121) (v := (60 : Int64)) hx hb hown (hts (.constantLong RX11 121 (60)) (List.mem_of_getElem? (i := 2) rfl)) dX11_decides_35 ?_
  refine lv_lrem hx hb dX11_decides_38 (by decide) ?_
  refine lv_l2i hx hb dX11_decides_39 rfl ?_
  refine lv_iadd hx hb dX11_decides_40 ?_
  refine lv_iload_n hx hb dX11_decides_41 rfl (lv_at hl 1 rfl) ?_
  refine lv_bipush (v := (11 : Int32)) hx hb dX11_decides_42 (by decide) ?_
  refine w_diaL (rest := [.int ((114 : Int32) + ((x1 91) - (x1 91) / (60 : Int64) * (60 : Int64)).toInt32), .ref b2]) (K := p1 = 11) 52 (1 : Int64) (0 : Int64) (fun kt kf => ?_) ?_
  · refine lv_icmp_ne (tgt := 51) hx hb dX11_decides_44 (by decide) (fun c1 => ?_) (fun c1 => ?_)
    · have c1 : ¬ (p1 = 11) := fun h9 => c1 ((nI_eq (a := p1) (b := 11) (by omega) (by omega)).mpr h9)
      refine lv_lconst (v := (0 : Int64)) hx hb dX11_decides_51 rfl ?_
      exact kf c1
    · have c1 : p1 = 11 := (nI_eq (a := p1) (b := 11) (by omega) (by omega)).mp c1
      refine lv_lconst (v := (1 : Int64)) hx hb dX11_decides_47 rfl ?_
      refine lv_goto (tgt := 52) hx hb dX11_decides_48 (by decide) ?_
      exact kt c1
  refine w_last (f := (vp_updL (vp_updL x1 92 ((nI p1).toInt64)) (93 + p1) ((x1 (93 + p1)) + (1 : Int64)))) (j := (114 + (nT (x1 91) % 60))) hx hb hQ.1 hP hD hS 1 1 rfl rfl ((congr (congrArg HAdd.hAdd (show (114 : Int32) = nI 114 from (rfl : (114 : Int32) = nI 114))) (show ((x1 91) - (x1 91) / (60 : Int64) * (60 : Int64)).toInt32 = nI (nT (x1 91) % 60) from (w_t60 ht))).trans (nI_add 114 (nT (x1 91) % 60))) (by omega) (by decide) dX11_decides_52 (fun H locs hP hD hS => ?_)
  have hP : va_P D vwCl (wF [gN b0 b2 b1 x0, gR cL b2 (vp_updL (vp_updL (vp_updL x1 92 ((nI p1).toInt64)) (93 + p1) ((x1 (93 + p1)) + (1 : Int64))) (114 + (nT (x1 91) % 60)) (if p1 = 11 then (1 : Int64) else (0 : Int64)))]) H := hP
  have hD : va_D A (wF [gN b0 b2 b1 x0, gR cL b2 (vp_updL (vp_updL (vp_updL x1 92 ((nI p1).toInt64)) (93 + p1) ((x1 (93 + p1)) + (1 : Int64))) (114 + (nT (x1 91) % 60)) (if p1 = 11 then (1 : Int64) else (0 : Int64)))]) := hD
  refine lv_iload_n hx hb dX11_decides_53 rfl (lv_at hl 1 rfl) ?_
  refine lv_iconst (v := (1 : Int32)) hx hb dX11_decides_54 (by decide) ?_
  refine lv_icmp_eq (tgt := 63) hx hb dX11_decides_55 (by decide) (fun c2 => ?_) (fun c2 => ?_)
  · have c2 : p1 = 1 := (nI_eq (a := p1) (b := 1) (by omega) (by omega)).mp c2
    refine lv_aload_n hx hb dX11_decides_63 rfl (lv_at hl 0 rfl) ?_
    refine va_get (D := D) (ci := 11) (v := .ref b2) (C := RX11) (T := TX11) (N := 10) hx hb hts hinX11 hown hQ.1 hP 0 rfl rfl 0 (by decide) (hts (.fieldLink RX11 7 "HeatPumpPlantModel" "row" "[J") (List.mem_of_getElem? (i := 1) rfl)) (fun _ h9 => h9) rfl dX11_decides_64 ?_
    refine lv_bipush (v := (86 : Int32)) hx hb dX11_decides_67 (by decide) ?_
    refine lv_lconst (v := (0 : Int64)) hx hb dX11_decides_69 rfl ?_
    refine w_last (f := (vp_updL (vp_updL (vp_updL x1 92 ((nI p1).toInt64)) (93 + p1) ((x1 (93 + p1)) + (1 : Int64))) (114 + (nT (x1 91) % 60)) (if p1 = 11 then (1 : Int64) else (0 : Int64)))) (j := 86) hx hb hQ.1 hP hD hS 1 1 rfl rfl (rfl : (86 : Int32) = nI 86) (by omega) (by decide) dX11_decides_70 (fun H locs hP hD hS => ?_)
    have hP : va_P D vwCl (wF [gN b0 b2 b1 x0, gR cL b2 (vp_updL (vp_updL (vp_updL (vp_updL x1 92 ((nI p1).toInt64)) (93 + p1) ((x1 (93 + p1)) + (1 : Int64))) (114 + (nT (x1 91) % 60)) (if p1 = 11 then (1 : Int64) else (0 : Int64))) 86 (0 : Int64))]) H := hP
    have hD : va_D A (wF [gN b0 b2 b1 x0, gR cL b2 (vp_updL (vp_updL (vp_updL (vp_updL x1 92 ((nI p1).toInt64)) (93 + p1) ((x1 (93 + p1)) + (1 : Int64))) (114 + (nT (x1 91) % 60)) (if p1 = 11 then (1 : Int64) else (0 : Int64))) 86 (0 : Int64))]) := hD
    refine lv_aload_n hx hb dX11_decides_71 rfl (lv_at hl 0 rfl) ?_
    refine va_get (D := D) (ci := 11) (v := .ref b2) (C := RX11) (T := TX11) (N := 10) hx hb hts hinX11 hown hQ.1 hP 0 rfl rfl 0 (by decide) (hts (.fieldLink RX11 7 "HeatPumpPlantModel" "row" "[J") (List.mem_of_getElem? (i := 1) rfl)) (fun _ h9 => h9) rfl dX11_decides_72 ?_
    refine lv_bipush (v := (88 : Int32)) hx hb dX11_decides_75 (by decide) ?_
    refine lv_lconst (v := (0 : Int64)) hx hb dX11_decides_77 rfl ?_
    refine w_last (f := (vp_updL (vp_updL (vp_updL (vp_updL x1 92 ((nI p1).toInt64)) (93 + p1) ((x1 (93 + p1)) + (1 : Int64))) (114 + (nT (x1 91) % 60)) (if p1 = 11 then (1 : Int64) else (0 : Int64))) 86 (0 : Int64))) (j := 88) hx hb hQ.1 hP hD hS 1 1 rfl rfl (rfl : (88 : Int32) = nI 88) (by omega) (by decide) dX11_decides_78 (fun H locs hP hD hS => ?_)
    have hP : va_P D vwCl (wF [gN b0 b2 b1 x0, gR cL b2 (vp_updL (vp_updL (vp_updL (vp_updL (vp_updL x1 92 ((nI p1).toInt64)) (93 + p1) ((x1 (93 + p1)) + (1 : Int64))) (114 + (nT (x1 91) % 60)) (if p1 = 11 then (1 : Int64) else (0 : Int64))) 86 (0 : Int64)) 88 (0 : Int64))]) H := hP
    have hD : va_D A (wF [gN b0 b2 b1 x0, gR cL b2 (vp_updL (vp_updL (vp_updL (vp_updL (vp_updL x1 92 ((nI p1).toInt64)) (93 + p1) ((x1 (93 + p1)) + (1 : Int64))) (114 + (nT (x1 91) % 60)) (if p1 = 11 then (1 : Int64) else (0 : Int64))) 86 (0 : Int64)) 88 (0 : Int64))]) := hD
    refine lv_goto (tgt := 158) hx hb dX11_decides_79 (by decide) ?_
    exact W.vret hx hb hr (fun t ht hW => ⟨⟨(vp_updL (vp_updL (vp_updL (vp_updL (vp_updL x1 92 ((nI p1).toInt64)) (93 + p1) ((x1 (93 + p1)) + (1 : Int64))) (114 + (nT (x1 91) % 60)) (if p1 = 11 then (1 : Int64) else (0 : Int64))) 86 (0 : Int64)) 88 (0 : Int64)), rfl, ((Eq.trans (if_pos c2) (rfl)).symm), by rw [ht]; exact hP, hD⟩, hS.F ht⟩) hS.2.2 dX11_decides_158
  · have c2 : ¬ (p1 = 1) := fun h9 => c2 ((nI_eq (a := p1) (b := 1) (by omega) (by omega)).mpr h9)
    refine lv_iload_n hx hb dX11_decides_58 rfl (lv_at hl 1 rfl) ?_
    refine lv_iconst (v := (3 : Int32)) hx hb dX11_decides_59 (by decide) ?_
    refine lv_icmp_ne (tgt := 82) hx hb dX11_decides_60 (by decide) (fun c3 => ?_) (fun c3 => ?_)
    · have c3 : ¬ (p1 = 3) := fun h9 => c3 ((nI_eq (a := p1) (b := 3) (by omega) (by omega)).mpr h9)
      refine lv_iload_n hx hb dX11_decides_82 rfl (lv_at hl 1 rfl) ?_
      refine lv_iconst (v := (4 : Int32)) hx hb dX11_decides_83 (by decide) ?_
      refine lv_icmp_ne (tgt := 125) hx hb dX11_decides_84 (by decide) (fun c4 => ?_) (fun c4 => ?_)
      · have c4 : ¬ (p1 = 4) := fun h9 => c4 ((nI_eq (a := p1) (b := 4) (by omega) (by omega)).mpr h9)
        refine lv_iload_n hx hb dX11_decides_125 rfl (lv_at hl 1 rfl) ?_
        refine lv_bipush (v := (11 : Int32)) hx hb dX11_decides_126 (by decide) ?_
        refine lv_icmp_ne (tgt := 158) hx hb dX11_decides_128 (by decide) (fun c5 => ?_) (fun c5 => ?_)
        · have c5 : ¬ (p1 = 11) := fun h9 => c5 ((nI_eq (a := p1) (b := 11) (by omega) (by omega)).mpr h9)
          exact W.vret hx hb hr (fun t ht hW => ⟨⟨(vp_updL (vp_updL (vp_updL x1 92 ((nI p1).toInt64)) (93 + p1) ((x1 (93 + p1)) + (1 : Int64))) (114 + (nT (x1 91) % 60)) (if p1 = 11 then (1 : Int64) else (0 : Int64))), rfl, ((Eq.trans (if_neg c2) (Eq.trans (if_neg c3) (Eq.trans (if_neg c4) (Eq.trans (if_neg c5) (rfl))))).symm), by rw [ht]; exact hP, hD⟩, hS.F ht⟩) hS.2.2 dX11_decides_158
        · have c5 : p1 = 11 := (nI_eq (a := p1) (b := 11) (by omega) (by omega)).mp c5
          refine lv_aload_n hx hb dX11_decides_131 rfl (lv_at hl 0 rfl) ?_
          refine va_get (D := D) (ci := 11) (v := .ref b2) (C := RX11) (T := TX11) (N := 10) hx hb hts hinX11 hown hQ.1 hP 0 rfl rfl 0 (by decide) (hts (.fieldLink RX11 7 "HeatPumpPlantModel" "row" "[J") (List.mem_of_getElem? (i := 1) rfl)) (fun _ h9 => h9) rfl dX11_decides_132 ?_
          refine lv_bipush (v := (86 : Int32)) hx hb dX11_decides_135 (by decide) ?_
          refine lv_lconst (v := (1 : Int64)) hx hb dX11_decides_137 rfl ?_
          refine w_last (f := (vp_updL (vp_updL (vp_updL x1 92 ((nI p1).toInt64)) (93 + p1) ((x1 (93 + p1)) + (1 : Int64))) (114 + (nT (x1 91) % 60)) (if p1 = 11 then (1 : Int64) else (0 : Int64)))) (j := 86) hx hb hQ.1 hP hD hS 1 1 rfl rfl (rfl : (86 : Int32) = nI 86) (by omega) (by decide) dX11_decides_138 (fun H locs hP hD hS => ?_)
          have hP : va_P D vwCl (wF [gN b0 b2 b1 x0, gR cL b2 (vp_updL (vp_updL (vp_updL (vp_updL x1 92 ((nI p1).toInt64)) (93 + p1) ((x1 (93 + p1)) + (1 : Int64))) (114 + (nT (x1 91) % 60)) (if p1 = 11 then (1 : Int64) else (0 : Int64))) 86 (1 : Int64))]) H := hP
          have hD : va_D A (wF [gN b0 b2 b1 x0, gR cL b2 (vp_updL (vp_updL (vp_updL (vp_updL x1 92 ((nI p1).toInt64)) (93 + p1) ((x1 (93 + p1)) + (1 : Int64))) (114 + (nT (x1 91) % 60)) (if p1 = 11 then (1 : Int64) else (0 : Int64))) 86 (1 : Int64))]) := hD
          refine lv_aload_n hx hb dX11_decides_139 rfl (lv_at hl 0 rfl) ?_
          refine va_get (D := D) (ci := 11) (v := .ref b2) (C := RX11) (T := TX11) (N := 10) hx hb hts hinX11 hown hQ.1 hP 0 rfl rfl 0 (by decide) (hts (.fieldLink RX11 7 "HeatPumpPlantModel" "row" "[J") (List.mem_of_getElem? (i := 1) rfl)) (fun _ h9 => h9) rfl dX11_decides_140 ?_
          refine lv_bipush (v := (87 : Int32)) hx hb dX11_decides_143 (by decide) ?_
          refine lv_lconst (v := (0 : Int64)) hx hb dX11_decides_145 rfl ?_
          refine w_last (f := (vp_updL (vp_updL (vp_updL (vp_updL x1 92 ((nI p1).toInt64)) (93 + p1) ((x1 (93 + p1)) + (1 : Int64))) (114 + (nT (x1 91) % 60)) (if p1 = 11 then (1 : Int64) else (0 : Int64))) 86 (1 : Int64))) (j := 87) hx hb hQ.1 hP hD hS 1 1 rfl rfl (rfl : (87 : Int32) = nI 87) (by omega) (by decide) dX11_decides_146 (fun H locs hP hD hS => ?_)
          have hP : va_P D vwCl (wF [gN b0 b2 b1 x0, gR cL b2 (vp_updL (vp_updL (vp_updL (vp_updL (vp_updL x1 92 ((nI p1).toInt64)) (93 + p1) ((x1 (93 + p1)) + (1 : Int64))) (114 + (nT (x1 91) % 60)) (if p1 = 11 then (1 : Int64) else (0 : Int64))) 86 (1 : Int64)) 87 (0 : Int64))]) H := hP
          have hD : va_D A (wF [gN b0 b2 b1 x0, gR cL b2 (vp_updL (vp_updL (vp_updL (vp_updL (vp_updL x1 92 ((nI p1).toInt64)) (93 + p1) ((x1 (93 + p1)) + (1 : Int64))) (114 + (nT (x1 91) % 60)) (if p1 = 11 then (1 : Int64) else (0 : Int64))) 86 (1 : Int64)) 87 (0 : Int64))]) := hD
          refine lv_aload_n hx hb dX11_decides_147 rfl (lv_at hl 0 rfl) ?_
          refine va_get (D := D) (ci := 11) (v := .ref b2) (C := RX11) (T := TX11) (N := 10) hx hb hts hinX11 hown hQ.1 hP 0 rfl rfl 0 (by decide) (hts (.fieldLink RX11 7 "HeatPumpPlantModel" "row" "[J") (List.mem_of_getElem? (i := 1) rfl)) (fun _ h9 => h9) rfl dX11_decides_148 ?_
          refine lv_bipush (v := (105 : Int32)) hx hb dX11_decides_151 (by decide) ?_
          refine lv_dup2_11 hx hb dX11_decides_153 rfl rfl ?_
          refine w_lald (f := (vp_updL (vp_updL (vp_updL (vp_updL (vp_updL x1 92 ((nI p1).toInt64)) (93 + p1) ((x1 (93 + p1)) + (1 : Int64))) (114 + (nT (x1 91) % 60)) (if p1 = 11 then (1 : Int64) else (0 : Int64))) 86 (1 : Int64)) 87 (0 : Int64))) (j := 105) hx hb hQ.1 hP 1 1 rfl rfl (rfl : (105 : Int32) = nI 105) (by omega) (by decide) dX11_decides_154 ?_
          refine w_topL (show ((vp_updL (vp_updL (vp_updL (vp_updL (vp_updL x1 92 ((nI p1).toInt64)) (93 + p1) ((x1 (93 + p1)) + (1 : Int64))) (114 + (nT (x1 91) % 60)) (if p1 = 11 then (1 : Int64) else (0 : Int64))) 86 (1 : Int64)) 87 (0 : Int64)) 105) = (x1 105) from (w_rd (by omega) (w_rd (by omega) (w_rd (by omega) (w_rd (by omega) (w_rd (by omega) rfl)))))) ?_
          refine lv_lconst (v := (1 : Int64)) hx hb dX11_decides_155 rfl ?_
          refine lv_ladd hx hb dX11_decides_156 ?_
          refine w_last (f := (vp_updL (vp_updL (vp_updL (vp_updL (vp_updL x1 92 ((nI p1).toInt64)) (93 + p1) ((x1 (93 + p1)) + (1 : Int64))) (114 + (nT (x1 91) % 60)) (if p1 = 11 then (1 : Int64) else (0 : Int64))) 86 (1 : Int64)) 87 (0 : Int64))) (j := 105) hx hb hQ.1 hP hD hS 1 1 rfl rfl (rfl : (105 : Int32) = nI 105) (by omega) (by decide) dX11_decides_157 (fun H locs hP hD hS => ?_)
          have hP : va_P D vwCl (wF [gN b0 b2 b1 x0, gR cL b2 (vp_updL (vp_updL (vp_updL (vp_updL (vp_updL (vp_updL x1 92 ((nI p1).toInt64)) (93 + p1) ((x1 (93 + p1)) + (1 : Int64))) (114 + (nT (x1 91) % 60)) (if p1 = 11 then (1 : Int64) else (0 : Int64))) 86 (1 : Int64)) 87 (0 : Int64)) 105 ((x1 105) + (1 : Int64)))]) H := hP
          have hD : va_D A (wF [gN b0 b2 b1 x0, gR cL b2 (vp_updL (vp_updL (vp_updL (vp_updL (vp_updL (vp_updL x1 92 ((nI p1).toInt64)) (93 + p1) ((x1 (93 + p1)) + (1 : Int64))) (114 + (nT (x1 91) % 60)) (if p1 = 11 then (1 : Int64) else (0 : Int64))) 86 (1 : Int64)) 87 (0 : Int64)) 105 ((x1 105) + (1 : Int64)))]) := hD
          exact W.vret hx hb hr (fun t ht hW => ⟨⟨(vp_updL (vp_updL (vp_updL (vp_updL (vp_updL (vp_updL x1 92 ((nI p1).toInt64)) (93 + p1) ((x1 (93 + p1)) + (1 : Int64))) (114 + (nT (x1 91) % 60)) (if p1 = 11 then (1 : Int64) else (0 : Int64))) 86 (1 : Int64)) 87 (0 : Int64)) 105 ((x1 105) + (1 : Int64))), rfl, ((Eq.trans (if_neg c2) (Eq.trans (if_neg c3) (Eq.trans (if_neg c4) (Eq.trans (if_pos c5) (rfl))))).symm), by rw [ht]; exact hP, hD⟩, hS.F ht⟩) hS.2.2 dX11_decides_158
      · have c4 : p1 = 4 := (nI_eq (a := p1) (b := 4) (by omega) (by omega)).mp c4
        refine lv_aload_n hx hb dX11_decides_87 rfl (lv_at hl 0 rfl) ?_
        refine va_get (D := D) (ci := 11) (v := .ref b2) (C := RX11) (T := TX11) (N := 10) hx hb hts hinX11 hown hQ.1 hP 0 rfl rfl 0 (by decide) (hts (.fieldLink RX11 7 "HeatPumpPlantModel" "row" "[J") (List.mem_of_getElem? (i := 1) rfl)) (fun _ h9 => h9) rfl dX11_decides_88 ?_
        refine lv_bipush (v := (86 : Int32)) hx hb dX11_decides_91 (by decide) ?_
        refine lv_ldc2 (own := RX11) (index := 29) (v := (2 : Int64)) hx hb hown (hts (.constantLong RX11 29 (2)) (List.mem_of_getElem? (i := 3) rfl)) dX11_decides_93 ?_
        refine w_last (f := (vp_updL (vp_updL (vp_updL x1 92 ((nI p1).toInt64)) (93 + p1) ((x1 (93 + p1)) + (1 : Int64))) (114 + (nT (x1 91) % 60)) (if p1 = 11 then (1 : Int64) else (0 : Int64)))) (j := 86) hx hb hQ.1 hP hD hS 1 1 rfl rfl (rfl : (86 : Int32) = nI 86) (by omega) (by decide) dX11_decides_96 (fun H locs hP hD hS => ?_)
        have hP : va_P D vwCl (wF [gN b0 b2 b1 x0, gR cL b2 (vp_updL (vp_updL (vp_updL (vp_updL x1 92 ((nI p1).toInt64)) (93 + p1) ((x1 (93 + p1)) + (1 : Int64))) (114 + (nT (x1 91) % 60)) (if p1 = 11 then (1 : Int64) else (0 : Int64))) 86 (2 : Int64))]) H := hP
        have hD : va_D A (wF [gN b0 b2 b1 x0, gR cL b2 (vp_updL (vp_updL (vp_updL (vp_updL x1 92 ((nI p1).toInt64)) (93 + p1) ((x1 (93 + p1)) + (1 : Int64))) (114 + (nT (x1 91) % 60)) (if p1 = 11 then (1 : Int64) else (0 : Int64))) 86 (2 : Int64))]) := hD
        refine lv_aload_n hx hb dX11_decides_97 rfl (lv_at hl 0 rfl) ?_
        refine va_get (D := D) (ci := 11) (v := .ref b2) (C := RX11) (T := TX11) (N := 10) hx hb hts hinX11 hown hQ.1 hP 0 rfl rfl 0 (by decide) (hts (.fieldLink RX11 7 "HeatPumpPlantModel" "row" "[J") (List.mem_of_getElem? (i := 1) rfl)) (fun _ h9 => h9) rfl dX11_decides_98 ?_
        refine lv_bipush (v := (90 : Int32)) hx hb dX11_decides_101 (by decide) ?_
        refine lv_aload_n hx hb dX11_decides_103 rfl (lv_at hl 0 rfl) ?_
        refine va_get (D := D) (ci := 11) (v := .ref b2) (C := RX11) (T := TX11) (N := 10) hx hb hts hinX11 hown hQ.1 hP 0 rfl rfl 0 (by decide) (hts (.fieldLink RX11 7 "HeatPumpPlantModel" "row" "[J") (List.mem_of_getElem? (i := 1) rfl)) (fun _ h9 => h9) rfl dX11_decides_104 ?_
        refine lv_bipush (v := (91 : Int32)) hx hb dX11_decides_107 (by decide) ?_
        refine w_lald (f := (vp_updL (vp_updL (vp_updL (vp_updL x1 92 ((nI p1).toInt64)) (93 + p1) ((x1 (93 + p1)) + (1 : Int64))) (114 + (nT (x1 91) % 60)) (if p1 = 11 then (1 : Int64) else (0 : Int64))) 86 (2 : Int64))) (j := 91) hx hb hQ.1 hP 1 1 rfl rfl (rfl : (91 : Int32) = nI 91) (by omega) (by decide) dX11_decides_109 ?_
        refine w_topL (show ((vp_updL (vp_updL (vp_updL (vp_updL x1 92 ((nI p1).toInt64)) (93 + p1) ((x1 (93 + p1)) + (1 : Int64))) (114 + (nT (x1 91) % 60)) (if p1 = 11 then (1 : Int64) else (0 : Int64))) 86 (2 : Int64)) 91) = (x1 91) from (w_rd (by omega) (w_rd (by omega) (w_rd (by omega) (w_rd (by omega) rfl))))) ?_
        refine w_last (f := (vp_updL (vp_updL (vp_updL (vp_updL x1 92 ((nI p1).toInt64)) (93 + p1) ((x1 (93 + p1)) + (1 : Int64))) (114 + (nT (x1 91) % 60)) (if p1 = 11 then (1 : Int64) else (0 : Int64))) 86 (2 : Int64))) (j := 90) hx hb hQ.1 hP hD hS 1 1 rfl rfl (rfl : (90 : Int32) = nI 90) (by omega) (by decide) dX11_decides_110 (fun H locs hP hD hS => ?_)
        have hP : va_P D vwCl (wF [gN b0 b2 b1 x0, gR cL b2 (vp_updL (vp_updL (vp_updL (vp_updL (vp_updL x1 92 ((nI p1).toInt64)) (93 + p1) ((x1 (93 + p1)) + (1 : Int64))) (114 + (nT (x1 91) % 60)) (if p1 = 11 then (1 : Int64) else (0 : Int64))) 86 (2 : Int64)) 90 (x1 91))]) H := hP
        have hD : va_D A (wF [gN b0 b2 b1 x0, gR cL b2 (vp_updL (vp_updL (vp_updL (vp_updL (vp_updL x1 92 ((nI p1).toInt64)) (93 + p1) ((x1 (93 + p1)) + (1 : Int64))) (114 + (nT (x1 91) % 60)) (if p1 = 11 then (1 : Int64) else (0 : Int64))) 86 (2 : Int64)) 90 (x1 91))]) := hD
        refine lv_aload_n hx hb dX11_decides_111 rfl (lv_at hl 0 rfl) ?_
        refine va_get (D := D) (ci := 11) (v := .ref b2) (C := RX11) (T := TX11) (N := 10) hx hb hts hinX11 hown hQ.1 hP 0 rfl rfl 0 (by decide) (hts (.fieldLink RX11 7 "HeatPumpPlantModel" "row" "[J") (List.mem_of_getElem? (i := 1) rfl)) (fun _ h9 => h9) rfl dX11_decides_112 ?_
        refine lv_bipush (v := (106 : Int32)) hx hb dX11_decides_115 (by decide) ?_
        refine lv_dup2_11 hx hb dX11_decides_117 rfl rfl ?_
        refine w_lald (f := (vp_updL (vp_updL (vp_updL (vp_updL (vp_updL x1 92 ((nI p1).toInt64)) (93 + p1) ((x1 (93 + p1)) + (1 : Int64))) (114 + (nT (x1 91) % 60)) (if p1 = 11 then (1 : Int64) else (0 : Int64))) 86 (2 : Int64)) 90 (x1 91))) (j := 106) hx hb hQ.1 hP 1 1 rfl rfl (rfl : (106 : Int32) = nI 106) (by omega) (by decide) dX11_decides_118 ?_
        refine w_topL (show ((vp_updL (vp_updL (vp_updL (vp_updL (vp_updL x1 92 ((nI p1).toInt64)) (93 + p1) ((x1 (93 + p1)) + (1 : Int64))) (114 + (nT (x1 91) % 60)) (if p1 = 11 then (1 : Int64) else (0 : Int64))) 86 (2 : Int64)) 90 (x1 91)) 106) = (x1 106) from (w_rd (by omega) (w_rd (by omega) (w_rd (by omega) (w_rd (by omega) (w_rd (by omega) rfl)))))) ?_
        refine lv_lconst (v := (1 : Int64)) hx hb dX11_decides_119 rfl ?_
        refine lv_ladd hx hb dX11_decides_120 ?_
        refine w_last (f := (vp_updL (vp_updL (vp_updL (vp_updL (vp_updL x1 92 ((nI p1).toInt64)) (93 + p1) ((x1 (93 + p1)) + (1 : Int64))) (114 + (nT (x1 91) % 60)) (if p1 = 11 then (1 : Int64) else (0 : Int64))) 86 (2 : Int64)) 90 (x1 91))) (j := 106) hx hb hQ.1 hP hD hS 1 1 rfl rfl (rfl : (106 : Int32) = nI 106) (by omega) (by decide) dX11_decides_121 (fun H locs hP hD hS => ?_)
        have hP : va_P D vwCl (wF [gN b0 b2 b1 x0, gR cL b2 (vp_updL (vp_updL (vp_updL (vp_updL (vp_updL (vp_updL x1 92 ((nI p1).toInt64)) (93 + p1) ((x1 (93 + p1)) + (1 : Int64))) (114 + (nT (x1 91) % 60)) (if p1 = 11 then (1 : Int64) else (0 : Int64))) 86 (2 : Int64)) 90 (x1 91)) 106 ((x1 106) + (1 : Int64)))]) H := hP
        have hD : va_D A (wF [gN b0 b2 b1 x0, gR cL b2 (vp_updL (vp_updL (vp_updL (vp_updL (vp_updL (vp_updL x1 92 ((nI p1).toInt64)) (93 + p1) ((x1 (93 + p1)) + (1 : Int64))) (114 + (nT (x1 91) % 60)) (if p1 = 11 then (1 : Int64) else (0 : Int64))) 86 (2 : Int64)) 90 (x1 91)) 106 ((x1 106) + (1 : Int64)))]) := hD
        refine lv_goto (tgt := 158) hx hb dX11_decides_122 (by decide) ?_
        exact W.vret hx hb hr (fun t ht hW => ⟨⟨(vp_updL (vp_updL (vp_updL (vp_updL (vp_updL (vp_updL x1 92 ((nI p1).toInt64)) (93 + p1) ((x1 (93 + p1)) + (1 : Int64))) (114 + (nT (x1 91) % 60)) (if p1 = 11 then (1 : Int64) else (0 : Int64))) 86 (2 : Int64)) 90 (x1 91)) 106 ((x1 106) + (1 : Int64))), rfl, ((Eq.trans (if_neg c2) (Eq.trans (if_neg c3) (Eq.trans (if_pos c4) (rfl)))).symm), by rw [ht]; exact hP, hD⟩, hS.F ht⟩) hS.2.2 dX11_decides_158
    · have c3 : p1 = 3 := (nI_eq (a := p1) (b := 3) (by omega) (by omega)).mp c3
      refine lv_aload_n hx hb dX11_decides_63 rfl (lv_at hl 0 rfl) ?_
      refine va_get (D := D) (ci := 11) (v := .ref b2) (C := RX11) (T := TX11) (N := 10) hx hb hts hinX11 hown hQ.1 hP 0 rfl rfl 0 (by decide) (hts (.fieldLink RX11 7 "HeatPumpPlantModel" "row" "[J") (List.mem_of_getElem? (i := 1) rfl)) (fun _ h9 => h9) rfl dX11_decides_64 ?_
      refine lv_bipush (v := (86 : Int32)) hx hb dX11_decides_67 (by decide) ?_
      refine lv_lconst (v := (0 : Int64)) hx hb dX11_decides_69 rfl ?_
      refine w_last (f := (vp_updL (vp_updL (vp_updL x1 92 ((nI p1).toInt64)) (93 + p1) ((x1 (93 + p1)) + (1 : Int64))) (114 + (nT (x1 91) % 60)) (if p1 = 11 then (1 : Int64) else (0 : Int64)))) (j := 86) hx hb hQ.1 hP hD hS 1 1 rfl rfl (rfl : (86 : Int32) = nI 86) (by omega) (by decide) dX11_decides_70 (fun H locs hP hD hS => ?_)
      have hP : va_P D vwCl (wF [gN b0 b2 b1 x0, gR cL b2 (vp_updL (vp_updL (vp_updL (vp_updL x1 92 ((nI p1).toInt64)) (93 + p1) ((x1 (93 + p1)) + (1 : Int64))) (114 + (nT (x1 91) % 60)) (if p1 = 11 then (1 : Int64) else (0 : Int64))) 86 (0 : Int64))]) H := hP
      have hD : va_D A (wF [gN b0 b2 b1 x0, gR cL b2 (vp_updL (vp_updL (vp_updL (vp_updL x1 92 ((nI p1).toInt64)) (93 + p1) ((x1 (93 + p1)) + (1 : Int64))) (114 + (nT (x1 91) % 60)) (if p1 = 11 then (1 : Int64) else (0 : Int64))) 86 (0 : Int64))]) := hD
      refine lv_aload_n hx hb dX11_decides_71 rfl (lv_at hl 0 rfl) ?_
      refine va_get (D := D) (ci := 11) (v := .ref b2) (C := RX11) (T := TX11) (N := 10) hx hb hts hinX11 hown hQ.1 hP 0 rfl rfl 0 (by decide) (hts (.fieldLink RX11 7 "HeatPumpPlantModel" "row" "[J") (List.mem_of_getElem? (i := 1) rfl)) (fun _ h9 => h9) rfl dX11_decides_72 ?_
      refine lv_bipush (v := (88 : Int32)) hx hb dX11_decides_75 (by decide) ?_
      refine lv_lconst (v := (0 : Int64)) hx hb dX11_decides_77 rfl ?_
      refine w_last (f := (vp_updL (vp_updL (vp_updL (vp_updL x1 92 ((nI p1).toInt64)) (93 + p1) ((x1 (93 + p1)) + (1 : Int64))) (114 + (nT (x1 91) % 60)) (if p1 = 11 then (1 : Int64) else (0 : Int64))) 86 (0 : Int64))) (j := 88) hx hb hQ.1 hP hD hS 1 1 rfl rfl (rfl : (88 : Int32) = nI 88) (by omega) (by decide) dX11_decides_78 (fun H locs hP hD hS => ?_)
      have hP : va_P D vwCl (wF [gN b0 b2 b1 x0, gR cL b2 (vp_updL (vp_updL (vp_updL (vp_updL (vp_updL x1 92 ((nI p1).toInt64)) (93 + p1) ((x1 (93 + p1)) + (1 : Int64))) (114 + (nT (x1 91) % 60)) (if p1 = 11 then (1 : Int64) else (0 : Int64))) 86 (0 : Int64)) 88 (0 : Int64))]) H := hP
      have hD : va_D A (wF [gN b0 b2 b1 x0, gR cL b2 (vp_updL (vp_updL (vp_updL (vp_updL (vp_updL x1 92 ((nI p1).toInt64)) (93 + p1) ((x1 (93 + p1)) + (1 : Int64))) (114 + (nT (x1 91) % 60)) (if p1 = 11 then (1 : Int64) else (0 : Int64))) 86 (0 : Int64)) 88 (0 : Int64))]) := hD
      refine lv_goto (tgt := 158) hx hb dX11_decides_79 (by decide) ?_
      exact W.vret hx hb hr (fun t ht hW => ⟨⟨(vp_updL (vp_updL (vp_updL (vp_updL (vp_updL x1 92 ((nI p1).toInt64)) (93 + p1) ((x1 (93 + p1)) + (1 : Int64))) (114 + (nT (x1 91) % 60)) (if p1 = 11 then (1 : Int64) else (0 : Int64))) 86 (0 : Int64)) 88 (0 : Int64)), rfl, ((Eq.trans (if_neg c2) (Eq.trans (if_pos c3) (rfl))).symm), by rw [ht]; exact hP, hD⟩, hS.F ht⟩) hS.2.2 dX11_decides_158
theorem dec_o (x1 : Nat → Int64) {p1 : Nat} (hp : p1 < 12) : mOe x1 (F11_decides x1 p1) := by
  unfold F11_decides
  repeat' split
  all_goals
    repeat refine mOe.u ?_ (by omega) _
    exact mOe.r
def B11_produces_94 (x0 : MoN) (x1 : (Nat → Int64)) (p1 : Int64) (p2 : Int64) : Int64 := (if (100 : Int64) ≤ (((350 : Int64) + ((5 : Int64) * (F11_div p1 (10 : Int64)))) - ((4 : Int64) * (F11_div ((F11_warmth x1 3) - (300 : Int64)) (10 : Int64)))) then (if (((350 : Int64) + ((5 : Int64) * (F11_div p1 (10 : Int64)))) - ((4 : Int64) * (F11_div ((F11_warmth x1 3) - (300 : Int64)) (10 : Int64)))) ≤ (700 : Int64) then (((350 : Int64) + ((5 : Int64) * (F11_div p1 (10 : Int64)))) - ((4 : Int64) * (F11_div ((F11_warmth x1 3) - (300 : Int64)) (10 : Int64)))) else (700 : Int64)) else (100 : Int64))
def K11_produces_1 (x0 : MoN) (x1 : (Nat → Int64)) (p1 : Int64) (p2 : Int64) (z6 : Int64) : (Nat → Int64) := (vp_updL (vp_updL (vp_updL (vp_updL (vp_updL x1 85 ((x1 85) + (if (500 : Int64) ≤ ((F11_set1 x1 7) + (F11_div ((F11_set1 x1 8) * p1) (10 : Int64))) then ((F11_set1 x1 7) + (F11_div ((F11_set1 x1 8) * p1) (10 : Int64))) else (500 : Int64)))) 107 ((x1 107) + (if (500 : Int64) ≤ ((F11_set1 x1 7) + (F11_div ((F11_set1 x1 8) * p1) (10 : Int64))) then ((F11_set1 x1 7) + (F11_div ((F11_set1 x1 8) * p1) (10 : Int64))) else (500 : Int64)))) 89 ((x1 89) + (if (F11_set1 (vp_updL (vp_updL x1 85 ((x1 85) + (if (500 : Int64) ≤ ((F11_set1 x1 7) + (F11_div ((F11_set1 x1 8) * p1) (10 : Int64))) then ((F11_set1 x1 7) + (F11_div ((F11_set1 x1 8) * p1) (10 : Int64))) else (500 : Int64)))) 107 ((x1 107) + (if (500 : Int64) ≤ ((F11_set1 x1 7) + (F11_div ((F11_set1 x1 8) * p1) (10 : Int64))) then ((F11_set1 x1 7) + (F11_div ((F11_set1 x1 8) * p1) (10 : Int64))) else (500 : Int64)))) 9) ≤ p1 then (0 : Int64) else (1 : Int64)))) 112 ((x1 112) + (((((if (500 : Int64) ≤ ((F11_set1 x1 7) + (F11_div ((F11_set1 x1 8) * p1) (10 : Int64))) then ((F11_set1 x1 7) + (F11_div ((F11_set1 x1 8) * p1) (10 : Int64))) else (500 : Int64)) * (100 : Int64)) + z6) - (1 : Int64)) / z6))) 113 ((x1 113) + ((((((if (500 : Int64) ≤ ((F11_set1 x1 7) + (F11_div ((F11_set1 x1 8) * p1) (10 : Int64))) then ((F11_set1 x1 7) + (F11_div ((F11_set1 x1 8) * p1) (10 : Int64))) else (500 : Int64)) * (100 : Int64)) + z6) - (1 : Int64)) / z6) * (x1 (65 + (nT p2))))))
def F11_produces (x0 : MoN) (x1 : (Nat → Int64)) (p1 : Int64) (p2 : Int64) : (Nat → Int64) := (if (x1 86) = (1 : Int64) then (K11_produces_1 x0 x1 p1 p2 (B11_produces_94 x0 x1 p1 p2)) else (if (x1 86) = (2 : Int64) then (vp_updL (vp_updL (vp_updL (vp_updL x1 85 ((x1 85) - (F11_set1 x1 12))) 108 ((x1 108) + (F11_set1 (vp_updL x1 85 ((x1 85) - (F11_set1 x1 12))) 12))) 112 ((x1 112) + (200 : Int64))) 113 ((x1 113) + ((200 : Int64) * (x1 (65 + (nT p2)))))) else (vp_updL (vp_updL x1 112 ((x1 112) + (0 : Int64))) 113 ((x1 113) + ((0 : Int64) * (x1 (65 + (nT p2))))))))
set_option maxHeartbeats 4000000 in
set_option maxRecDepth 100000 in
theorem m11_produces (l : Launch) (D : va_G) (cI cL cP : ClassId) (b0 : Nat) (b1 : Nat) (b2 : Nat) (x0 : MoN) (x1 : (Nat → Int64)) (p1 : Int64) (p2 : Int64) (h81 : ¬ x1 81 = 0) (his : 0 ≤ p2.toInt) (his2 : p2.toInt ≤ 2) (sz : Nat) : Met l yX11_produces wsX11_produces ({ frames := 2, cells := 0, slots := 0, locals := 46 }) (va_Pc [.ref b0, .long p1, .long p2] (pM D cI cL cP sz (wF [gN b0 b2 b1 x0, gR cL b2 x1]))) (va_Qv (fun (w : (Nat → Int64)) => w = F11_produces x0 x1 p1 p2) (qW D (va_A (wF [gN b0 b2 b1 x0, gR cL b2 x1]) sz) (fun w : (Nat → Int64) => (wF [gN b0 b2 b1 x0, gR cL b2 w]))) (va_A (wF [gN b0 b2 b1 x0, gR cL b2 x1]) sz)) 0 0 (va_A (wF [gN b0 b2 b1 x0, gR cL b2 x1]) sz) := by
  refine Met.ofW (cc := cX11_produces) (maxL := 11) (ret := none) (by decide) rfl ?_
  intro p e s m args below meth c s₁ B hml hv
  obtain ⟨rfl, hsz, hP, hQ, hD0⟩ := hv
  have hx := B.exec
  have hb := B.bytes
  have hr := B.returns
  have hts := atoms_spec (ws := wsX11_produces) B.pre
  have hown : s.vm.findClass RX11 = some m.cls := findClass_of_methodNamed B.named
  have hlocks := B.notSynchronized
  subst hsz
  have hD := hD0.self (sz := s.heap.size)
  generalize hAe : va_A (wF [gN b0 b2 b1 x0, gR cL b2 x1]) s.heap.size = A at hD ⊢
  have hA : ∀ q : Nat, s.heap.size ≤ q → A q := fun q h => by rw [← hAe]; exact Or.inr h
  have hS : va_S A s.heap s.heap [] := va_S.rf
  have hP : va_P D vwCl (wF [gN b0 b2 b1 x0, gR cL b2 x1]) s.heap := hP
  have hl := lv_entry ([.ref b0, .long p1, .long p2]) (n := 11) (Nat.le_of_ble_eq_true rfl)
  rw [lg_entry_eq]
  generalize (lg_sl ([.ref b0, .long p1, .long p2]) ++ List.replicate (11 - (lg_sl ([.ref b0, .long p1, .long p2])).length) Slot.unset).toArray = ls at hl ⊢
  have hl : lv_has ls 11 [(0, .ref b0), (1, .long p1), (3, .long p2)] := hl
  have hinX11 : ∀ w ∈ wsX110, w ∈ wsX11_produces := fun _ h => List.mem_cons_of_mem _ (List.mem_append_right _ h)
  have hisn : nT p2 ≤ 2 := nT_le his2
  refine lv_lconst (v := (0 : Int64)) hx hb dX11_produces_0 rfl ?_
  refine lv_lstore (lv' := [(5, .long (0 : Int64)), (0, .ref b0), (1, .long p1), (3, .long p2)]) hx hb dX11_produces_1 hl (by decide) rfl (fun ls hl => ?_)
  refine lv_aload_n hx hb dX11_produces_3 rfl (lv_at hl 1 rfl) ?_
  refine va_get (D := D) (ci := 11) (v := .ref b2) (C := RX11) (T := TX11) (N := 10) hx hb hts hinX11 hown hQ.1 hP 0 rfl rfl 0 (by decide) (hts (.fieldLink RX11 7 "HeatPumpPlantModel" "row" "[J") (List.mem_of_getElem? (i := 1) rfl)) (fun _ h9 => h9) rfl dX11_produces_4 ?_
  refine lv_bipush (v := (86 : Int32)) hx hb dX11_produces_7 (by decide) ?_
  refine w_lald (f := x1) (j := 86) hx hb hQ.1 hP 1 1 rfl rfl (rfl : (86 : Int32) = nI 86) (by omega) (by decide) dX11_produces_9 ?_
  refine lv_lconst (v := (1 : Int64)) hx hb dX11_produces_10 rfl ?_
  refine w_lne (tgt := 197) hx hb dX11_produces_11 dX11_produces_12 (by decide) (fun c1 => ?_) (fun c1 => ?_)
  · have c1 : ¬ ((x1 86) = (1 : Int64)) := c1
    refine lv_aload_n hx hb dX11_produces_197 rfl (lv_at hl 1 rfl) ?_
    refine va_get (D := D) (ci := 11) (v := .ref b2) (C := RX11) (T := TX11) (N := 10) hx hb hts hinX11 hown hQ.1 hP 0 rfl rfl 0 (by decide) (hts (.fieldLink RX11 7 "HeatPumpPlantModel" "row" "[J") (List.mem_of_getElem? (i := 1) rfl)) (fun _ h9 => h9) rfl dX11_produces_198 ?_
    refine lv_bipush (v := (86 : Int32)) hx hb dX11_produces_201 (by decide) ?_
    refine w_lald (f := x1) (j := 86) hx hb hQ.1 hP 1 1 rfl rfl (rfl : (86 : Int32) = nI 86) (by omega) (by decide) dX11_produces_203 ?_
    refine lv_ldc2 (own := RX11) (index := 29) (v := (2 : Int64)) hx hb hown (hts (.constantLong RX11 29 (2)) (List.mem_of_getElem? (i := 10) rfl)) dX11_produces_204 ?_
    refine w_lne (tgt := 248) hx hb dX11_produces_207 dX11_produces_208 (by decide) (fun c2 => ?_) (fun c2 => ?_)
    · have c2 : ¬ ((x1 86) = (2 : Int64)) := c2
      refine lv_aload_n hx hb dX11_produces_248 rfl (lv_at hl 1 rfl) ?_
      refine va_get (D := D) (ci := 11) (v := .ref b2) (C := RX11) (T := TX11) (N := 10) hx hb hts hinX11 hown hQ.1 hP 0 rfl rfl 0 (by decide) (hts (.fieldLink RX11 7 "HeatPumpPlantModel" "row" "[J") (List.mem_of_getElem? (i := 1) rfl)) (fun _ h9 => h9) rfl dX11_produces_249 ?_
      refine lv_bipush (v := (112 : Int32)) hx hb dX11_produces_252 (by decide) ?_
      refine lv_dup2_11 hx hb dX11_produces_254 rfl rfl ?_
      refine w_lald (f := x1) (j := 112) hx hb hQ.1 hP 1 1 rfl rfl (rfl : (112 : Int32) = nI 112) (by omega) (by decide) dX11_produces_255 ?_
      refine lv_lload hx hb dX11_produces_256 (lv_at hl 0 rfl) ?_
      refine lv_ladd hx hb dX11_produces_258 ?_
      refine w_last (f := x1) (j := 112) hx hb hQ.1 hP hD hS 1 1 rfl rfl (rfl : (112 : Int32) = nI 112) (by omega) (by decide) dX11_produces_259 (fun H locs hP hD hS => ?_)
      have hP : va_P D vwCl (wF [gN b0 b2 b1 x0, gR cL b2 (vp_updL x1 112 ((x1 112) + (0 : Int64)))]) H := hP
      have hD : va_D A (wF [gN b0 b2 b1 x0, gR cL b2 (vp_updL x1 112 ((x1 112) + (0 : Int64)))]) := hD
      refine lv_aload_n hx hb dX11_produces_260 rfl (lv_at hl 1 rfl) ?_
      refine va_get (D := D) (ci := 11) (v := .ref b2) (C := RX11) (T := TX11) (N := 10) hx hb hts hinX11 hown hQ.1 hP 0 rfl rfl 0 (by decide) (hts (.fieldLink RX11 7 "HeatPumpPlantModel" "row" "[J") (List.mem_of_getElem? (i := 1) rfl)) (fun _ h9 => h9) rfl dX11_produces_261 ?_
      refine lv_bipush (v := (113 : Int32)) hx hb dX11_produces_264 (by decide) ?_
      refine lv_dup2_11 hx hb dX11_produces_266 rfl rfl ?_
      refine w_lald (f := (vp_updL x1 112 ((x1 112) + (0 : Int64)))) (j := 113) hx hb hQ.1 hP 1 1 rfl rfl (rfl : (113 : Int32) = nI 113) (by omega) (by decide) dX11_produces_267 ?_
      refine w_topL (show ((vp_updL x1 112 ((x1 112) + (0 : Int64))) 113) = (x1 113) from (w_rd (by omega) rfl)) ?_
      refine lv_lload hx hb dX11_produces_268 (lv_at hl 0 rfl) ?_
      refine lv_aload_n hx hb dX11_produces_270 rfl (lv_at hl 1 rfl) ?_
      refine va_get (D := D) (ci := 11) (v := .ref b2) (C := RX11) (T := TX11) (N := 10) hx hb hts hinX11 hown hQ.1 hP 0 rfl rfl 0 (by decide) (hts (.fieldLink RX11 7 "HeatPumpPlantModel" "row" "[J") (List.mem_of_getElem? (i := 1) rfl)) (fun _ h9 => h9) rfl dX11_produces_271 ?_
      refine lv_bipush (v := (65 : Int32)) hx hb dX11_produces_274 (by decide) ?_
      refine lv_lload_n hx hb dX11_produces_276 rfl (lv_at hl 3 rfl) ?_
      refine lv_l2i hx hb dX11_produces_277 rfl ?_
      refine lv_iadd hx hb dX11_produces_278 ?_
      refine w_lald (f := (vp_updL x1 112 ((x1 112) + (0 : Int64)))) (j := (65 + (nT p2))) hx hb hQ.1 hP 1 1 rfl rfl ((congr (congrArg HAdd.hAdd (show (65 : Int32) = nI 65 from (rfl : (65 : Int32) = nI 65))) (show p2.toInt32 = nI (nT p2) from (w_nTi his))).trans (nI_add 65 (nT p2))) (by omega) (by decide) dX11_produces_279 ?_
      refine w_topL (show ((vp_updL x1 112 ((x1 112) + (0 : Int64))) (65 + (nT p2))) = (x1 (65 + (nT p2))) from (w_rd (by omega) rfl)) ?_
      refine lv_lmul hx hb dX11_produces_280 ?_
      refine lv_ladd hx hb dX11_produces_281 ?_
      refine w_last (f := (vp_updL x1 112 ((x1 112) + (0 : Int64)))) (j := 113) hx hb hQ.1 hP hD hS 1 1 rfl rfl (rfl : (113 : Int32) = nI 113) (by omega) (by decide) dX11_produces_282 (fun H locs hP hD hS => ?_)
      have hP : va_P D vwCl (wF [gN b0 b2 b1 x0, gR cL b2 (vp_updL (vp_updL x1 112 ((x1 112) + (0 : Int64))) 113 ((x1 113) + ((0 : Int64) * (x1 (65 + (nT p2))))))]) H := hP
      have hD : va_D A (wF [gN b0 b2 b1 x0, gR cL b2 (vp_updL (vp_updL x1 112 ((x1 112) + (0 : Int64))) 113 ((x1 113) + ((0 : Int64) * (x1 (65 + (nT p2))))))]) := hD
      exact W.vret hx hb hr (fun t ht hW => ⟨⟨(vp_updL (vp_updL x1 112 ((x1 112) + (0 : Int64))) 113 ((x1 113) + ((0 : Int64) * (x1 (65 + (nT p2)))))), rfl, ((Eq.trans (if_neg c1) (Eq.trans (if_neg c2) (rfl))).symm), by rw [ht]; exact hP, hD⟩, hS.F ht⟩) hS.2.2 dX11_produces_283
    · have c2 : (x1 86) = (2 : Int64) := c2
      refine lv_aload_n hx hb dX11_produces_211 rfl (lv_at hl 1 rfl) ?_
      refine va_get (D := D) (ci := 11) (v := .ref b2) (C := RX11) (T := TX11) (N := 10) hx hb hts hinX11 hown hQ.1 hP 0 rfl rfl 0 (by decide) (hts (.fieldLink RX11 7 "HeatPumpPlantModel" "row" "[J") (List.mem_of_getElem? (i := 1) rfl)) (fun _ h9 => h9) rfl dX11_produces_212 ?_
      refine lv_bipush (v := (85 : Int32)) hx hb dX11_produces_215 (by decide) ?_
      refine lv_dup2_11 hx hb dX11_produces_217 rfl rfl ?_
      refine w_lald (f := x1) (j := 85) hx hb hQ.1 hP 1 1 rfl rfl (rfl : (85 : Int32) = nI 85) (by omega) (by decide) dX11_produces_218 ?_
      refine lv_aload_n hx hb dX11_produces_219 rfl (lv_at hl 1 rfl) ?_
      refine lv_bipush (v := (12 : Int32)) hx hb dX11_produces_220 (by decide) ?_
      have hPc : va_P D vwCl (wF [gN b0 b2 b1 x0, gR cL b2 x1]) s.heap := hP.sub [0, 1] rfl
      refine c_Rl (va_runV (As := [.int (nI 12)]) (rest := [.long (x1 85), .int (85 : Int32), .ref b2]) ⟨hx, hb, hml, hown, hts⟩ (m11_set1 l D cI cL cP b0 b1 b2 x0 x1 12 (by omega) s.heap) (cwV 1 hts gX11_produces_X11_set1 rfl rfl rfl (by decide +kernel) ⟨Nat.le_of_ble_eq_true rfl, Nat.le_of_ble_eq_true rfl⟩) (preR_V (q := (RX11, TX11, 10)) (q0 := 0) hQ hPc rfl rfl) rfl rfl hl.1 rfl (lv_room (Nat.le_of_ble_eq_true rfl)) dX11_produces_222 ⟨Nat.le_of_ble_eq_true rfl, Nat.le_of_ble_eq_true rfl⟩) hS (fun locs hS => ?_)
      refine lv_lsub hx hb dX11_produces_225 ?_
      refine w_last (f := x1) (j := 85) hx hb hQ.1 hP hD hS 1 1 rfl rfl (rfl : (85 : Int32) = nI 85) (by omega) (by decide) dX11_produces_226 (fun H locs hP hD hS => ?_)
      have hP : va_P D vwCl (wF [gN b0 b2 b1 x0, gR cL b2 (vp_updL x1 85 ((x1 85) - (F11_set1 x1 12)))]) H := hP
      have hD : va_D A (wF [gN b0 b2 b1 x0, gR cL b2 (vp_updL x1 85 ((x1 85) - (F11_set1 x1 12)))]) := hD
      refine lv_aload_n hx hb dX11_produces_227 rfl (lv_at hl 1 rfl) ?_
      refine va_get (D := D) (ci := 11) (v := .ref b2) (C := RX11) (T := TX11) (N := 10) hx hb hts hinX11 hown hQ.1 hP 0 rfl rfl 0 (by decide) (hts (.fieldLink RX11 7 "HeatPumpPlantModel" "row" "[J") (List.mem_of_getElem? (i := 1) rfl)) (fun _ h9 => h9) rfl dX11_produces_228 ?_
      refine lv_bipush (v := (108 : Int32)) hx hb dX11_produces_231 (by decide) ?_
      refine lv_dup2_11 hx hb dX11_produces_233 rfl rfl ?_
      refine w_lald (f := (vp_updL x1 85 ((x1 85) - (F11_set1 x1 12)))) (j := 108) hx hb hQ.1 hP 1 1 rfl rfl (rfl : (108 : Int32) = nI 108) (by omega) (by decide) dX11_produces_234 ?_
      refine w_topL (show ((vp_updL x1 85 ((x1 85) - (F11_set1 x1 12))) 108) = (x1 108) from (w_rd (by omega) rfl)) ?_
      refine lv_aload_n hx hb dX11_produces_235 rfl (lv_at hl 1 rfl) ?_
      refine lv_bipush (v := (12 : Int32)) hx hb dX11_produces_236 (by decide) ?_
      have hPc : va_P D vwCl (wF [gN b0 b2 b1 x0, gR cL b2 (vp_updL x1 85 ((x1 85) - (F11_set1 x1 12)))]) H := hP.sub [0, 1] rfl
      refine c_Rl (va_runV (As := [.int (nI 12)]) (rest := [.long (x1 108), .int (108 : Int32), .ref b2]) ⟨hx, hb, hml, hown, hts⟩ (m11_set1 l D cI cL cP b0 b1 b2 x0 (vp_updL x1 85 ((x1 85) - (F11_set1 x1 12))) 12 (by omega) H) (cwV 1 hts gX11_produces_X11_set1 rfl rfl rfl (by decide +kernel) ⟨Nat.le_of_ble_eq_true rfl, Nat.le_of_ble_eq_true rfl⟩) (preR_V (q := (RX11, TX11, 10)) (q0 := 0) hQ hPc rfl rfl) rfl rfl hl.1 rfl (lv_room (Nat.le_of_ble_eq_true rfl)) dX11_produces_238 ⟨Nat.le_of_ble_eq_true rfl, Nat.le_of_ble_eq_true rfl⟩) hS (fun locs hS => ?_)
      refine lv_ladd hx hb dX11_produces_241 ?_
      refine w_last (f := (vp_updL x1 85 ((x1 85) - (F11_set1 x1 12)))) (j := 108) hx hb hQ.1 hP hD hS 1 1 rfl rfl (rfl : (108 : Int32) = nI 108) (by omega) (by decide) dX11_produces_242 (fun H locs hP hD hS => ?_)
      have hP : va_P D vwCl (wF [gN b0 b2 b1 x0, gR cL b2 (vp_updL (vp_updL x1 85 ((x1 85) - (F11_set1 x1 12))) 108 ((x1 108) + (F11_set1 (vp_updL x1 85 ((x1 85) - (F11_set1 x1 12))) 12)))]) H := hP
      have hD : va_D A (wF [gN b0 b2 b1 x0, gR cL b2 (vp_updL (vp_updL x1 85 ((x1 85) - (F11_set1 x1 12))) 108 ((x1 108) + (F11_set1 (vp_updL x1 85 ((x1 85) - (F11_set1 x1 12))) 12)))]) := hD
      refine lv_ldc2 (own := RX11) (index := 35) (v := (200 : Int64)) hx hb hown (hts (.constantLong RX11 35 (200)) (List.mem_of_getElem? (i := 11) rfl)) dX11_produces_243 ?_
      refine lv_lstore (lv' := [(5, .long (200 : Int64)), (0, .ref b0), (1, .long p1), (3, .long p2)]) hx hb dX11_produces_246 hl (by decide) rfl (fun ls hl => ?_)
      refine lv_aload_n hx hb dX11_produces_248 rfl (lv_at hl 1 rfl) ?_
      refine va_get (D := D) (ci := 11) (v := .ref b2) (C := RX11) (T := TX11) (N := 10) hx hb hts hinX11 hown hQ.1 hP 0 rfl rfl 0 (by decide) (hts (.fieldLink RX11 7 "HeatPumpPlantModel" "row" "[J") (List.mem_of_getElem? (i := 1) rfl)) (fun _ h9 => h9) rfl dX11_produces_249 ?_
      refine lv_bipush (v := (112 : Int32)) hx hb dX11_produces_252 (by decide) ?_
      refine lv_dup2_11 hx hb dX11_produces_254 rfl rfl ?_
      refine w_lald (f := (vp_updL (vp_updL x1 85 ((x1 85) - (F11_set1 x1 12))) 108 ((x1 108) + (F11_set1 (vp_updL x1 85 ((x1 85) - (F11_set1 x1 12))) 12)))) (j := 112) hx hb hQ.1 hP 1 1 rfl rfl (rfl : (112 : Int32) = nI 112) (by omega) (by decide) dX11_produces_255 ?_
      refine w_topL (show ((vp_updL (vp_updL x1 85 ((x1 85) - (F11_set1 x1 12))) 108 ((x1 108) + (F11_set1 (vp_updL x1 85 ((x1 85) - (F11_set1 x1 12))) 12))) 112) = (x1 112) from (w_rd (by omega) (w_rd (by omega) rfl))) ?_
      refine lv_lload hx hb dX11_produces_256 (lv_at hl 0 rfl) ?_
      refine lv_ladd hx hb dX11_produces_258 ?_
      refine w_last (f := (vp_updL (vp_updL x1 85 ((x1 85) - (F11_set1 x1 12))) 108 ((x1 108) + (F11_set1 (vp_updL x1 85 ((x1 85) - (F11_set1 x1 12))) 12)))) (j := 112) hx hb hQ.1 hP hD hS 1 1 rfl rfl (rfl : (112 : Int32) = nI 112) (by omega) (by decide) dX11_produces_259 (fun H locs hP hD hS => ?_)
      have hP : va_P D vwCl (wF [gN b0 b2 b1 x0, gR cL b2 (vp_updL (vp_updL (vp_updL x1 85 ((x1 85) - (F11_set1 x1 12))) 108 ((x1 108) + (F11_set1 (vp_updL x1 85 ((x1 85) - (F11_set1 x1 12))) 12))) 112 ((x1 112) + (200 : Int64)))]) H := hP
      have hD : va_D A (wF [gN b0 b2 b1 x0, gR cL b2 (vp_updL (vp_updL (vp_updL x1 85 ((x1 85) - (F11_set1 x1 12))) 108 ((x1 108) + (F11_set1 (vp_updL x1 85 ((x1 85) - (F11_set1 x1 12))) 12))) 112 ((x1 112) + (200 : Int64)))]) := hD
      refine lv_aload_n hx hb dX11_produces_260 rfl (lv_at hl 1 rfl) ?_
      refine va_get (D := D) (ci := 11) (v := .ref b2) (C := RX11) (T := TX11) (N := 10) hx hb hts hinX11 hown hQ.1 hP 0 rfl rfl 0 (by decide) (hts (.fieldLink RX11 7 "HeatPumpPlantModel" "row" "[J") (List.mem_of_getElem? (i := 1) rfl)) (fun _ h9 => h9) rfl dX11_produces_261 ?_
      refine lv_bipush (v := (113 : Int32)) hx hb dX11_produces_264 (by decide) ?_
      refine lv_dup2_11 hx hb dX11_produces_266 rfl rfl ?_
      refine w_lald (f := (vp_updL (vp_updL (vp_updL x1 85 ((x1 85) - (F11_set1 x1 12))) 108 ((x1 108) + (F11_set1 (vp_updL x1 85 ((x1 85) - (F11_set1 x1 12))) 12))) 112 ((x1 112) + (200 : Int64)))) (j := 113) hx hb hQ.1 hP 1 1 rfl rfl (rfl : (113 : Int32) = nI 113) (by omega) (by decide) dX11_produces_267 ?_
      refine w_topL (show ((vp_updL (vp_updL (vp_updL x1 85 ((x1 85) - (F11_set1 x1 12))) 108 ((x1 108) + (F11_set1 (vp_updL x1 85 ((x1 85) - (F11_set1 x1 12))) 12))) 112 ((x1 112) + (200 : Int64))) 113) = (x1 113) from (w_rd (by omega) (w_rd (by omega) (w_rd (by omega) rfl)))) ?_
      refine lv_lload hx hb dX11_produces_268 (lv_at hl 0 rfl) ?_
      refine lv_aload_n hx hb dX11_produces_270 rfl (lv_at hl 1 rfl) ?_
      refine va_get (D := D) (ci := 11) (v := .ref b2) (C := RX11) (T := TX11) (N := 10) hx hb hts hinX11 hown hQ.1 hP 0 rfl rfl 0 (by decide) (hts (.fieldLink RX11 7 "HeatPumpPlantModel" "row" "[J") (List.mem_of_getElem? (i := 1) rfl)) (fun _ h9 => h9) rfl dX11_produces_271 ?_
      refine lv_bipush (v := (65 : Int32)) hx hb dX11_produces_274 (by decide) ?_
      refine lv_lload_n hx hb dX11_produces_276 rfl (lv_at hl 3 rfl) ?_
      refine lv_l2i hx hb dX11_produces_277 rfl ?_
      refine lv_iadd hx hb dX11_produces_278 ?_
      refine w_lald (f := (vp_updL (vp_updL (vp_updL x1 85 ((x1 85) - (F11_set1 x1 12))) 108 ((x1 108) + (F11_set1 (vp_updL x1 85 ((x1 85) - (F11_set1 x1 12))) 12))) 112 ((x1 112) + (200 : Int64)))) (j := (65 + (nT p2))) hx hb hQ.1 hP 1 1 rfl rfl ((congr (congrArg HAdd.hAdd (show (65 : Int32) = nI 65 from (rfl : (65 : Int32) = nI 65))) (show p2.toInt32 = nI (nT p2) from (w_nTi his))).trans (nI_add 65 (nT p2))) (by omega) (by decide) dX11_produces_279 ?_
      refine w_topL (show ((vp_updL (vp_updL (vp_updL x1 85 ((x1 85) - (F11_set1 x1 12))) 108 ((x1 108) + (F11_set1 (vp_updL x1 85 ((x1 85) - (F11_set1 x1 12))) 12))) 112 ((x1 112) + (200 : Int64))) (65 + (nT p2))) = (x1 (65 + (nT p2))) from (w_rd (by omega) (w_rd (by omega) (w_rd (by omega) rfl)))) ?_
      refine lv_lmul hx hb dX11_produces_280 ?_
      refine lv_ladd hx hb dX11_produces_281 ?_
      refine w_last (f := (vp_updL (vp_updL (vp_updL x1 85 ((x1 85) - (F11_set1 x1 12))) 108 ((x1 108) + (F11_set1 (vp_updL x1 85 ((x1 85) - (F11_set1 x1 12))) 12))) 112 ((x1 112) + (200 : Int64)))) (j := 113) hx hb hQ.1 hP hD hS 1 1 rfl rfl (rfl : (113 : Int32) = nI 113) (by omega) (by decide) dX11_produces_282 (fun H locs hP hD hS => ?_)
      have hP : va_P D vwCl (wF [gN b0 b2 b1 x0, gR cL b2 (vp_updL (vp_updL (vp_updL (vp_updL x1 85 ((x1 85) - (F11_set1 x1 12))) 108 ((x1 108) + (F11_set1 (vp_updL x1 85 ((x1 85) - (F11_set1 x1 12))) 12))) 112 ((x1 112) + (200 : Int64))) 113 ((x1 113) + ((200 : Int64) * (x1 (65 + (nT p2))))))]) H := hP
      have hD : va_D A (wF [gN b0 b2 b1 x0, gR cL b2 (vp_updL (vp_updL (vp_updL (vp_updL x1 85 ((x1 85) - (F11_set1 x1 12))) 108 ((x1 108) + (F11_set1 (vp_updL x1 85 ((x1 85) - (F11_set1 x1 12))) 12))) 112 ((x1 112) + (200 : Int64))) 113 ((x1 113) + ((200 : Int64) * (x1 (65 + (nT p2))))))]) := hD
      exact W.vret hx hb hr (fun t ht hW => ⟨⟨(vp_updL (vp_updL (vp_updL (vp_updL x1 85 ((x1 85) - (F11_set1 x1 12))) 108 ((x1 108) + (F11_set1 (vp_updL x1 85 ((x1 85) - (F11_set1 x1 12))) 12))) 112 ((x1 112) + (200 : Int64))) 113 ((x1 113) + ((200 : Int64) * (x1 (65 + (nT p2)))))), rfl, ((Eq.trans (if_neg c1) (Eq.trans (if_pos c2) (rfl))).symm), by rw [ht]; exact hP, hD⟩, hS.F ht⟩) hS.2.2 dX11_produces_283
  · have c1 : (x1 86) = (1 : Int64) := c1
    refine lv_aload_n hx hb dX11_produces_15 rfl (lv_at hl 1 rfl) ?_
    refine lv_bipush (v := (7 : Int32)) hx hb dX11_produces_16 (by decide) ?_
    have hPc : va_P D vwCl (wF [gN b0 b2 b1 x0, gR cL b2 x1]) s.heap := hP.sub [0, 1] rfl
    refine c_Rl (va_runV (As := [.int (nI 7)]) (rest := []) ⟨hx, hb, hml, hown, hts⟩ (m11_set1 l D cI cL cP b0 b1 b2 x0 x1 7 (by omega) s.heap) (cwV 1 hts gX11_produces_X11_set1 rfl rfl rfl (by decide +kernel) ⟨Nat.le_of_ble_eq_true rfl, Nat.le_of_ble_eq_true rfl⟩) (preR_V (q := (RX11, TX11, 10)) (q0 := 0) hQ hPc rfl rfl) rfl rfl hl.1 rfl (lv_room (Nat.le_of_ble_eq_true rfl)) dX11_produces_18 ⟨Nat.le_of_ble_eq_true rfl, Nat.le_of_ble_eq_true rfl⟩) hS (fun locs hS => ?_)
    refine lv_aload_n hx hb dX11_produces_21 rfl (lv_at hl 1 rfl) ?_
    refine lv_bipush (v := (8 : Int32)) hx hb dX11_produces_22 (by decide) ?_
    have hPc : va_P D vwCl (wF [gN b0 b2 b1 x0, gR cL b2 x1]) s.heap := hP.sub [0, 1] rfl
    refine c_Rl (va_runV (As := [.int (nI 8)]) (rest := [.long (F11_set1 x1 7)]) ⟨hx, hb, hml, hown, hts⟩ (m11_set1 l D cI cL cP b0 b1 b2 x0 x1 8 (by omega) s.heap) (cwV 1 hts gX11_produces_X11_set1 rfl rfl rfl (by decide +kernel) ⟨Nat.le_of_ble_eq_true rfl, Nat.le_of_ble_eq_true rfl⟩) (preR_V (q := (RX11, TX11, 10)) (q0 := 0) hQ hPc rfl rfl) rfl rfl hl.1 rfl (lv_room (Nat.le_of_ble_eq_true rfl)) dX11_produces_24 ⟨Nat.le_of_ble_eq_true rfl, Nat.le_of_ble_eq_true rfl⟩) hS (fun locs hS => ?_)
    refine lv_lload_n hx hb dX11_produces_27 rfl (lv_at hl 2 rfl) ?_
    refine lv_lmul hx hb dX11_produces_28 ?_
    refine lv_ldc2 (own := RX11) (index := 23) (v := (10 : Int64)) hx hb hown (hts (.constantLong RX11 23 (10)) (List.mem_of_getElem? (i := 2) rfl)) dX11_produces_29 ?_
    have hPc : va_P D vwCl (wF []) s.heap := hP.sub [] rfl
    refine c_Rl (va_runS (As := [.long ((F11_set1 x1 8) * p1), .long (10 : Int64)]) (rest := [.long (F11_set1 x1 7)]) ⟨hx, hb, hml, hown, hts⟩ (m11_div l D cI cL cP ((F11_set1 x1 8) * p1) (10 : Int64) (by decide) s.heap) (va_cwS 2 hts gX11_produces_X11_div rfl rfl rfl (by decide +kernel) ⟨Nat.le_of_ble_eq_true rfl, Nat.le_of_ble_eq_true rfl⟩) (preR_S hQ hPc) rfl rfl hl.1 rfl (lv_room (Nat.le_of_ble_eq_true rfl)) dX11_produces_32 ⟨Nat.le_of_ble_eq_true rfl, Nat.le_of_ble_eq_true rfl⟩) hS (fun locs hS => ?_)
    refine lv_ladd hx hb dX11_produces_35 ?_
    refine lv_lstore (lv' := [(7, .long ((F11_set1 x1 7) + (F11_div ((F11_set1 x1 8) * p1) (10 : Int64)))), (5, .long (0 : Int64)), (0, .ref b0), (1, .long p1), (3, .long p2)]) hx hb dX11_produces_36 hl (by decide) rfl (fun ls hl => ?_)
    refine lv_lload hx hb dX11_produces_38 (lv_at hl 0 rfl) ?_
    refine lv_ldc2 (own := RX11) (index := 123) (v := (500 : Int64)) hx hb hown (hts (.constantLong RX11 123 (500)) (List.mem_of_getElem? (i := 3) rfl)) dX11_produces_40 ?_
    refine w_diaL (rest := []) (K := (500 : Int64) ≤ ((F11_set1 x1 7) + (F11_div ((F11_set1 x1 8) * p1) (10 : Int64)))) 55 ((F11_set1 x1 7) + (F11_div ((F11_set1 x1 8) * p1) (10 : Int64))) (500 : Int64) (fun kt kf => ?_) ?_
    · refine w_lge (tgt := 53) hx hb dX11_produces_43 dX11_produces_44 (by decide) (fun c3 => ?_) (fun c3 => ?_)
      · have c3 : (500 : Int64) ≤ ((F11_set1 x1 7) + (F11_div ((F11_set1 x1 8) * p1) (10 : Int64))) := c3
        refine lv_lload hx hb dX11_produces_53 (lv_at hl 0 rfl) ?_
        exact kt c3
      · have c3 : ¬ ((500 : Int64) ≤ ((F11_set1 x1 7) + (F11_div ((F11_set1 x1 8) * p1) (10 : Int64)))) := c3
        refine lv_ldc2 (own := RX11) (index := 123) (v := (500 : Int64)) hx hb hown (hts (.constantLong RX11 123 (500)) (List.mem_of_getElem? (i := 3) rfl)) dX11_produces_47 ?_
        refine lv_goto (tgt := 55) hx hb dX11_produces_50 (by decide) ?_
        exact kf c3
    refine lv_lstore (lv' := [(7, .long (if (500 : Int64) ≤ ((F11_set1 x1 7) + (F11_div ((F11_set1 x1 8) * p1) (10 : Int64))) then ((F11_set1 x1 7) + (F11_div ((F11_set1 x1 8) * p1) (10 : Int64))) else (500 : Int64))), (5, .long (0 : Int64)), (0, .ref b0), (1, .long p1), (3, .long p2)]) hx hb dX11_produces_55 hl (by decide) rfl (fun ls hl => ?_)
    refine lv_ldc2 (own := RX11) (index := 125) (v := (350 : Int64)) hx hb hown (hts (.constantLong RX11 125 (350)) (List.mem_of_getElem? (i := 4) rfl)) dX11_produces_57 ?_
    refine lv_ldc2 (own := RX11) (index := 127) (v := (5 : Int64)) hx hb hown (hts (.constantLong RX11 127 (5)) (List.mem_of_getElem? (i := 5) rfl)) dX11_produces_60 ?_
    refine lv_lload_n hx hb dX11_produces_63 rfl (lv_at hl 3 rfl) ?_
    refine lv_ldc2 (own := RX11) (index := 23) (v := (10 : Int64)) hx hb hown (hts (.constantLong RX11 23 (10)) (List.mem_of_getElem? (i := 2) rfl)) dX11_produces_64 ?_
    have hPc : va_P D vwCl (wF []) s.heap := hP.sub [] rfl
    refine c_Rl (va_runS (As := [.long p1, .long (10 : Int64)]) (rest := [.long (5 : Int64), .long (350 : Int64)]) ⟨hx, hb, hml, hown, hts⟩ (m11_div l D cI cL cP p1 (10 : Int64) (by decide) s.heap) (va_cwS 2 hts gX11_produces_X11_div rfl rfl rfl (by decide +kernel) ⟨Nat.le_of_ble_eq_true rfl, Nat.le_of_ble_eq_true rfl⟩) (preR_S hQ hPc) rfl rfl hl.1 rfl (lv_room (Nat.le_of_ble_eq_true rfl)) dX11_produces_67 ⟨Nat.le_of_ble_eq_true rfl, Nat.le_of_ble_eq_true rfl⟩) hS (fun locs hS => ?_)
    refine lv_lmul hx hb dX11_produces_70 ?_
    refine lv_ladd hx hb dX11_produces_71 ?_
    refine lv_ldc2 (own := RX11) (index := 129) (v := (4 : Int64)) hx hb hown (hts (.constantLong RX11 129 (4)) (List.mem_of_getElem? (i := 6) rfl)) dX11_produces_72 ?_
    refine lv_aload_n hx hb dX11_produces_75 rfl (lv_at hl 2 rfl) ?_
    refine lv_iconst (v := (3 : Int32)) hx hb dX11_produces_76 (by decide) ?_
    have hPc : va_P D vwCl (wF [gN b0 b2 b1 x0, gR cL b2 x1]) s.heap := hP.sub [0, 1] rfl
    refine c_Rl (va_runV (As := [.int (nI 3)]) (rest := [.long (4 : Int64), .long ((350 : Int64) + ((5 : Int64) * (F11_div p1 (10 : Int64))))]) ⟨hx, hb, hml, hown, hts⟩ (m11_warmth l D cI cL cP b0 b1 b2 x0 x1 3 (by omega) h81 s.heap) (cwV 1 hts gX11_produces_X11_warmth rfl rfl rfl (by decide +kernel) ⟨Nat.le_of_ble_eq_true rfl, Nat.le_of_ble_eq_true rfl⟩) (preR_V (q := (RX11, TX11, 10)) (q0 := 0) hQ hPc rfl rfl) rfl rfl hl.1 rfl (lv_room (Nat.le_of_ble_eq_true rfl)) dX11_produces_77 ⟨Nat.le_of_ble_eq_true rfl, Nat.le_of_ble_eq_true rfl⟩) hS (fun locs hS => ?_)
    refine lv_ldc2 (own := RX11) (index := 131) (v := (300 : Int64)) hx hb hown (hts (.constantLong RX11 131 (300)) (List.mem_of_getElem? (i := 7) rfl)) dX11_produces_80 ?_
    refine lv_lsub hx hb dX11_produces_83 ?_
    refine lv_ldc2 (own := RX11) (index := 23) (v := (10 : Int64)) hx hb hown (hts (.constantLong RX11 23 (10)) (List.mem_of_getElem? (i := 2) rfl)) dX11_produces_84 ?_
    have hPc : va_P D vwCl (wF []) s.heap := hP.sub [] rfl
    refine c_Rl (va_runS (As := [.long ((F11_warmth x1 3) - (300 : Int64)), .long (10 : Int64)]) (rest := [.long (4 : Int64), .long ((350 : Int64) + ((5 : Int64) * (F11_div p1 (10 : Int64))))]) ⟨hx, hb, hml, hown, hts⟩ (m11_div l D cI cL cP ((F11_warmth x1 3) - (300 : Int64)) (10 : Int64) (by decide) s.heap) (va_cwS 2 hts gX11_produces_X11_div rfl rfl rfl (by decide +kernel) ⟨Nat.le_of_ble_eq_true rfl, Nat.le_of_ble_eq_true rfl⟩) (preR_S hQ hPc) rfl rfl hl.1 rfl (lv_room (Nat.le_of_ble_eq_true rfl)) dX11_produces_87 ⟨Nat.le_of_ble_eq_true rfl, Nat.le_of_ble_eq_true rfl⟩) hS (fun locs hS => ?_)
    refine lv_lmul hx hb dX11_produces_90 ?_
    refine lv_lsub hx hb dX11_produces_91 ?_
    refine lv_lstore (lv' := [(9, .long (((350 : Int64) + ((5 : Int64) * (F11_div p1 (10 : Int64)))) - ((4 : Int64) * (F11_div ((F11_warmth x1 3) - (300 : Int64)) (10 : Int64))))), (7, .long (if (500 : Int64) ≤ ((F11_set1 x1 7) + (F11_div ((F11_set1 x1 8) * p1) (10 : Int64))) then ((F11_set1 x1 7) + (F11_div ((F11_set1 x1 8) * p1) (10 : Int64))) else (500 : Int64))), (5, .long (0 : Int64)), (0, .ref b0), (1, .long p1), (3, .long p2)]) hx hb dX11_produces_92 hl (by decide) rfl (fun ls hl => ?_)
    refine w_suf (P := ∀ z : Int64, z = B11_produces_94 x0 x1 p1 p2 → (¬ (z) = 0) → ∀ (H : Heap) (locs : List Loc) (_ : va_P D vwCl (wF [gN b0 b2 b1 x0, gR cL b2 x1]) H) (_ : va_D A (wF [gN b0 b2 b1 x0, gR cL b2 x1])) (_ : va_S A s.heap H locs) (ls : Array Slot) (_ : lv_has ls 11 [(9, .long z), (7, .long (if (500 : Int64) ≤ ((F11_set1 x1 7) + (F11_div ((F11_set1 x1 8) * p1) (10 : Int64))) then ((F11_set1 x1 7) + (F11_div ((F11_set1 x1 8) * p1) (10 : Int64))) else (500 : Int64))), (5, .long (0 : Int64)), (0, .ref b0), (1, .long p1), (3, .long p2)]), W p l e (headSpec wsX11_produces ({ frames := 2, cells := 0, slots := 0, locals := 46 })).room s m #[.ref b0, .long p1, .long p2] below meth c H locs 0 0 (MQ below (va_Qv (fun (w : (Nat → Int64)) => w = F11_produces x0 x1 p1 p2) (qW D A (fun w : (Nat → Int64) => (wF [gN b0 b2 b1 x0, gR cL b2 w]))) A) #[.ref b0, .long p1, .long p2] s 0 0 A) (F0 m 128 ls [])) (fun kk => ?_) ?_
    · refine lv_lload hx hb dX11_produces_94 (lv_at hl 0 rfl) ?_
      refine lv_ldc2 (own := RX11) (index := 107) (v := (100 : Int64)) hx hb hown (hts (.constantLong RX11 107 (100)) (List.mem_of_getElem? (i := 8) rfl)) dX11_produces_96 ?_
      refine w_lge (tgt := 109) hx hb dX11_produces_99 dX11_produces_100 (by decide) (fun c4 => ?_) (fun c4 => ?_)
      · have c4 : (100 : Int64) ≤ (((350 : Int64) + ((5 : Int64) * (F11_div p1 (10 : Int64)))) - ((4 : Int64) * (F11_div ((F11_warmth x1 3) - (300 : Int64)) (10 : Int64)))) := c4
        refine lv_lload hx hb dX11_produces_109 (lv_at hl 0 rfl) ?_
        refine lv_ldc2 (own := RX11) (index := 111) (v := (700 : Int64)) hx hb hown (hts (.constantLong RX11 111 (700)) (List.mem_of_getElem? (i := 9) rfl)) dX11_produces_111 ?_
        refine w_lle (tgt := 124) hx hb dX11_produces_114 dX11_produces_115 (by decide) (fun c5 => ?_) (fun c5 => ?_)
        · have c5 : (((350 : Int64) + ((5 : Int64) * (F11_div p1 (10 : Int64)))) - ((4 : Int64) * (F11_div ((F11_warmth x1 3) - (300 : Int64)) (10 : Int64)))) ≤ (700 : Int64) := c5
          refine lv_lload hx hb dX11_produces_124 (lv_at hl 0 rfl) ?_
          refine lv_lstore (lv' := [(9, .long (((350 : Int64) + ((5 : Int64) * (F11_div p1 (10 : Int64)))) - ((4 : Int64) * (F11_div ((F11_warmth x1 3) - (300 : Int64)) (10 : Int64))))), (7, .long (if (500 : Int64) ≤ ((F11_set1 x1 7) + (F11_div ((F11_set1 x1 8) * p1) (10 : Int64))) then ((F11_set1 x1 7) + (F11_div ((F11_set1 x1 8) * p1) (10 : Int64))) else (500 : Int64))), (5, .long (0 : Int64)), (0, .ref b0), (1, .long p1), (3, .long p2)]) hx hb dX11_produces_126 hl (by decide) rfl (fun ls hl => ?_)
          exact kk (((350 : Int64) + ((5 : Int64) * (F11_div p1 (10 : Int64)))) - ((4 : Int64) * (F11_div ((F11_warmth x1 3) - (300 : Int64)) (10 : Int64)))) ((Eq.trans (if_pos c4) (Eq.trans (if_pos c5) (rfl))).symm) (w_ge100 c4) s.heap locs hP hD hS ls (lv_sub hl [0, 1, 2, 3, 4, 5] rfl)
        · have c5 : ¬ ((((350 : Int64) + ((5 : Int64) * (F11_div p1 (10 : Int64)))) - ((4 : Int64) * (F11_div ((F11_warmth x1 3) - (300 : Int64)) (10 : Int64)))) ≤ (700 : Int64)) := c5
          refine lv_ldc2 (own := RX11) (index := 111) (v := (700 : Int64)) hx hb hown (hts (.constantLong RX11 111 (700)) (List.mem_of_getElem? (i := 9) rfl)) dX11_produces_118 ?_
          refine lv_goto (tgt := 126) hx hb dX11_produces_121 (by decide) ?_
          refine lv_lstore (lv' := [(9, .long (700 : Int64)), (7, .long (if (500 : Int64) ≤ ((F11_set1 x1 7) + (F11_div ((F11_set1 x1 8) * p1) (10 : Int64))) then ((F11_set1 x1 7) + (F11_div ((F11_set1 x1 8) * p1) (10 : Int64))) else (500 : Int64))), (5, .long (0 : Int64)), (0, .ref b0), (1, .long p1), (3, .long p2)]) hx hb dX11_produces_126 hl (by decide) rfl (fun ls hl => ?_)
          exact kk (700 : Int64) ((Eq.trans (if_pos c4) (Eq.trans (if_neg c5) (rfl))).symm) (by decide) s.heap locs hP hD hS ls (lv_sub hl [0, 1, 2, 3, 4, 5] rfl)
      · have c4 : ¬ ((100 : Int64) ≤ (((350 : Int64) + ((5 : Int64) * (F11_div p1 (10 : Int64)))) - ((4 : Int64) * (F11_div ((F11_warmth x1 3) - (300 : Int64)) (10 : Int64))))) := c4
        refine lv_ldc2 (own := RX11) (index := 107) (v := (100 : Int64)) hx hb hown (hts (.constantLong RX11 107 (100)) (List.mem_of_getElem? (i := 8) rfl)) dX11_produces_103 ?_
        refine lv_goto (tgt := 126) hx hb dX11_produces_106 (by decide) ?_
        refine lv_lstore (lv' := [(9, .long (100 : Int64)), (7, .long (if (500 : Int64) ≤ ((F11_set1 x1 7) + (F11_div ((F11_set1 x1 8) * p1) (10 : Int64))) then ((F11_set1 x1 7) + (F11_div ((F11_set1 x1 8) * p1) (10 : Int64))) else (500 : Int64))), (5, .long (0 : Int64)), (0, .ref b0), (1, .long p1), (3, .long p2)]) hx hb dX11_produces_126 hl (by decide) rfl (fun ls hl => ?_)
        exact kk (100 : Int64) ((Eq.trans (if_neg c4) (rfl)).symm) (by decide) s.heap locs hP hD hS ls (lv_sub hl [0, 1, 2, 3, 4, 5] rfl)
    intro z6 hz6 hq_z6 H locs hP hD hS ls hl
    refine lv_lload hx hb dX11_produces_128 (lv_at hl 1 rfl) ?_
    refine lv_ldc2 (own := RX11) (index := 107) (v := (100 : Int64)) hx hb hown (hts (.constantLong RX11 107 (100)) (List.mem_of_getElem? (i := 8) rfl)) dX11_produces_130 ?_
    refine lv_lmul hx hb dX11_produces_133 ?_
    refine lv_lload hx hb dX11_produces_134 (lv_at hl 0 rfl) ?_
    refine lv_ladd hx hb dX11_produces_136 ?_
    refine lv_lconst (v := (1 : Int64)) hx hb dX11_produces_137 rfl ?_
    refine lv_lsub hx hb dX11_produces_138 ?_
    refine lv_lload hx hb dX11_produces_139 (lv_at hl 0 rfl) ?_
    refine lv_ldiv hx hb dX11_produces_141 hq_z6 ?_
    refine lv_lstore (lv' := [(5, .long (((((if (500 : Int64) ≤ ((F11_set1 x1 7) + (F11_div ((F11_set1 x1 8) * p1) (10 : Int64))) then ((F11_set1 x1 7) + (F11_div ((F11_set1 x1 8) * p1) (10 : Int64))) else (500 : Int64)) * (100 : Int64)) + z6) - (1 : Int64)) / z6)), (9, .long z6), (7, .long (if (500 : Int64) ≤ ((F11_set1 x1 7) + (F11_div ((F11_set1 x1 8) * p1) (10 : Int64))) then ((F11_set1 x1 7) + (F11_div ((F11_set1 x1 8) * p1) (10 : Int64))) else (500 : Int64))), (0, .ref b0), (1, .long p1), (3, .long p2)]) hx hb dX11_produces_142 hl (by decide) rfl (fun ls hl => ?_)
    refine lv_aload_n hx hb dX11_produces_144 rfl (lv_at hl 3 rfl) ?_
    refine va_get (D := D) (ci := 11) (v := .ref b2) (C := RX11) (T := TX11) (N := 10) hx hb hts hinX11 hown hQ.1 hP 0 rfl rfl 0 (by decide) (hts (.fieldLink RX11 7 "HeatPumpPlantModel" "row" "[J") (List.mem_of_getElem? (i := 1) rfl)) (fun _ h9 => h9) rfl dX11_produces_145 ?_
    refine lv_bipush (v := (85 : Int32)) hx hb dX11_produces_148 (by decide) ?_
    refine lv_dup2_11 hx hb dX11_produces_150 rfl rfl ?_
    refine w_lald (f := x1) (j := 85) hx hb hQ.1 hP 1 1 rfl rfl (rfl : (85 : Int32) = nI 85) (by omega) (by decide) dX11_produces_151 ?_
    refine lv_lload hx hb dX11_produces_152 (lv_at hl 2 rfl) ?_
    refine lv_ladd hx hb dX11_produces_154 ?_
    refine w_last (f := x1) (j := 85) hx hb hQ.1 hP hD hS 1 1 rfl rfl (rfl : (85 : Int32) = nI 85) (by omega) (by decide) dX11_produces_155 (fun H locs hP hD hS => ?_)
    have hP : va_P D vwCl (wF [gN b0 b2 b1 x0, gR cL b2 (vp_updL x1 85 ((x1 85) + (if (500 : Int64) ≤ ((F11_set1 x1 7) + (F11_div ((F11_set1 x1 8) * p1) (10 : Int64))) then ((F11_set1 x1 7) + (F11_div ((F11_set1 x1 8) * p1) (10 : Int64))) else (500 : Int64))))]) H := hP
    have hD : va_D A (wF [gN b0 b2 b1 x0, gR cL b2 (vp_updL x1 85 ((x1 85) + (if (500 : Int64) ≤ ((F11_set1 x1 7) + (F11_div ((F11_set1 x1 8) * p1) (10 : Int64))) then ((F11_set1 x1 7) + (F11_div ((F11_set1 x1 8) * p1) (10 : Int64))) else (500 : Int64))))]) := hD
    refine lv_aload_n hx hb dX11_produces_156 rfl (lv_at hl 3 rfl) ?_
    refine va_get (D := D) (ci := 11) (v := .ref b2) (C := RX11) (T := TX11) (N := 10) hx hb hts hinX11 hown hQ.1 hP 0 rfl rfl 0 (by decide) (hts (.fieldLink RX11 7 "HeatPumpPlantModel" "row" "[J") (List.mem_of_getElem? (i := 1) rfl)) (fun _ h9 => h9) rfl dX11_produces_157 ?_
    refine lv_bipush (v := (107 : Int32)) hx hb dX11_produces_160 (by decide) ?_
    refine lv_dup2_11 hx hb dX11_produces_162 rfl rfl ?_
    refine w_lald (f := (vp_updL x1 85 ((x1 85) + (if (500 : Int64) ≤ ((F11_set1 x1 7) + (F11_div ((F11_set1 x1 8) * p1) (10 : Int64))) then ((F11_set1 x1 7) + (F11_div ((F11_set1 x1 8) * p1) (10 : Int64))) else (500 : Int64))))) (j := 107) hx hb hQ.1 hP 1 1 rfl rfl (rfl : (107 : Int32) = nI 107) (by omega) (by decide) dX11_produces_163 ?_
    refine w_topL (show ((vp_updL x1 85 ((x1 85) + (if (500 : Int64) ≤ ((F11_set1 x1 7) + (F11_div ((F11_set1 x1 8) * p1) (10 : Int64))) then ((F11_set1 x1 7) + (F11_div ((F11_set1 x1 8) * p1) (10 : Int64))) else (500 : Int64)))) 107) = (x1 107) from (w_rd (by omega) rfl)) ?_
    refine lv_lload hx hb dX11_produces_164 (lv_at hl 2 rfl) ?_
    refine lv_ladd hx hb dX11_produces_166 ?_
    refine w_last (f := (vp_updL x1 85 ((x1 85) + (if (500 : Int64) ≤ ((F11_set1 x1 7) + (F11_div ((F11_set1 x1 8) * p1) (10 : Int64))) then ((F11_set1 x1 7) + (F11_div ((F11_set1 x1 8) * p1) (10 : Int64))) else (500 : Int64))))) (j := 107) hx hb hQ.1 hP hD hS 1 1 rfl rfl (rfl : (107 : Int32) = nI 107) (by omega) (by decide) dX11_produces_167 (fun H locs hP hD hS => ?_)
    have hP : va_P D vwCl (wF [gN b0 b2 b1 x0, gR cL b2 (vp_updL (vp_updL x1 85 ((x1 85) + (if (500 : Int64) ≤ ((F11_set1 x1 7) + (F11_div ((F11_set1 x1 8) * p1) (10 : Int64))) then ((F11_set1 x1 7) + (F11_div ((F11_set1 x1 8) * p1) (10 : Int64))) else (500 : Int64)))) 107 ((x1 107) + (if (500 : Int64) ≤ ((F11_set1 x1 7) + (F11_div ((F11_set1 x1 8) * p1) (10 : Int64))) then ((F11_set1 x1 7) + (F11_div ((F11_set1 x1 8) * p1) (10 : Int64))) else (500 : Int64))))]) H := hP
    have hD : va_D A (wF [gN b0 b2 b1 x0, gR cL b2 (vp_updL (vp_updL x1 85 ((x1 85) + (if (500 : Int64) ≤ ((F11_set1 x1 7) + (F11_div ((F11_set1 x1 8) * p1) (10 : Int64))) then ((F11_set1 x1 7) + (F11_div ((F11_set1 x1 8) * p1) (10 : Int64))) else (500 : Int64)))) 107 ((x1 107) + (if (500 : Int64) ≤ ((F11_set1 x1 7) + (F11_div ((F11_set1 x1 8) * p1) (10 : Int64))) then ((F11_set1 x1 7) + (F11_div ((F11_set1 x1 8) * p1) (10 : Int64))) else (500 : Int64))))]) := hD
    refine lv_aload_n hx hb dX11_produces_168 rfl (lv_at hl 3 rfl) ?_
    refine va_get (D := D) (ci := 11) (v := .ref b2) (C := RX11) (T := TX11) (N := 10) hx hb hts hinX11 hown hQ.1 hP 0 rfl rfl 0 (by decide) (hts (.fieldLink RX11 7 "HeatPumpPlantModel" "row" "[J") (List.mem_of_getElem? (i := 1) rfl)) (fun _ h9 => h9) rfl dX11_produces_169 ?_
    refine lv_bipush (v := (89 : Int32)) hx hb dX11_produces_172 (by decide) ?_
    refine lv_dup2_11 hx hb dX11_produces_174 rfl rfl ?_
    refine w_lald (f := (vp_updL (vp_updL x1 85 ((x1 85) + (if (500 : Int64) ≤ ((F11_set1 x1 7) + (F11_div ((F11_set1 x1 8) * p1) (10 : Int64))) then ((F11_set1 x1 7) + (F11_div ((F11_set1 x1 8) * p1) (10 : Int64))) else (500 : Int64)))) 107 ((x1 107) + (if (500 : Int64) ≤ ((F11_set1 x1 7) + (F11_div ((F11_set1 x1 8) * p1) (10 : Int64))) then ((F11_set1 x1 7) + (F11_div ((F11_set1 x1 8) * p1) (10 : Int64))) else (500 : Int64))))) (j := 89) hx hb hQ.1 hP 1 1 rfl rfl (rfl : (89 : Int32) = nI 89) (by omega) (by decide) dX11_produces_175 ?_
    refine w_topL (show ((vp_updL (vp_updL x1 85 ((x1 85) + (if (500 : Int64) ≤ ((F11_set1 x1 7) + (F11_div ((F11_set1 x1 8) * p1) (10 : Int64))) then ((F11_set1 x1 7) + (F11_div ((F11_set1 x1 8) * p1) (10 : Int64))) else (500 : Int64)))) 107 ((x1 107) + (if (500 : Int64) ≤ ((F11_set1 x1 7) + (F11_div ((F11_set1 x1 8) * p1) (10 : Int64))) then ((F11_set1 x1 7) + (F11_div ((F11_set1 x1 8) * p1) (10 : Int64))) else (500 : Int64)))) 89) = (x1 89) from (w_rd (by omega) (w_rd (by omega) rfl))) ?_
    refine lv_lload_n hx hb dX11_produces_176 rfl (lv_at hl 4 rfl) ?_
    refine lv_aload_n hx hb dX11_produces_177 rfl (lv_at hl 3 rfl) ?_
    refine lv_bipush (v := (9 : Int32)) hx hb dX11_produces_178 (by decide) ?_
    have hPc : va_P D vwCl (wF [gN b0 b2 b1 x0, gR cL b2 (vp_updL (vp_updL x1 85 ((x1 85) + (if (500 : Int64) ≤ ((F11_set1 x1 7) + (F11_div ((F11_set1 x1 8) * p1) (10 : Int64))) then ((F11_set1 x1 7) + (F11_div ((F11_set1 x1 8) * p1) (10 : Int64))) else (500 : Int64)))) 107 ((x1 107) + (if (500 : Int64) ≤ ((F11_set1 x1 7) + (F11_div ((F11_set1 x1 8) * p1) (10 : Int64))) then ((F11_set1 x1 7) + (F11_div ((F11_set1 x1 8) * p1) (10 : Int64))) else (500 : Int64))))]) H := hP.sub [0, 1] rfl
    refine c_Rl (va_runV (As := [.int (nI 9)]) (rest := [.long p1, .long (x1 89), .int (89 : Int32), .ref b2]) ⟨hx, hb, hml, hown, hts⟩ (m11_set1 l D cI cL cP b0 b1 b2 x0 (vp_updL (vp_updL x1 85 ((x1 85) + (if (500 : Int64) ≤ ((F11_set1 x1 7) + (F11_div ((F11_set1 x1 8) * p1) (10 : Int64))) then ((F11_set1 x1 7) + (F11_div ((F11_set1 x1 8) * p1) (10 : Int64))) else (500 : Int64)))) 107 ((x1 107) + (if (500 : Int64) ≤ ((F11_set1 x1 7) + (F11_div ((F11_set1 x1 8) * p1) (10 : Int64))) then ((F11_set1 x1 7) + (F11_div ((F11_set1 x1 8) * p1) (10 : Int64))) else (500 : Int64)))) 9 (by omega) H) (cwV 1 hts gX11_produces_X11_set1 rfl rfl rfl (by decide +kernel) ⟨Nat.le_of_ble_eq_true rfl, Nat.le_of_ble_eq_true rfl⟩) (preR_V (q := (RX11, TX11, 10)) (q0 := 0) hQ hPc rfl rfl) rfl rfl hl.1 rfl (lv_room (Nat.le_of_ble_eq_true rfl)) dX11_produces_180 ⟨Nat.le_of_ble_eq_true rfl, Nat.le_of_ble_eq_true rfl⟩) hS (fun locs hS => ?_)
    refine w_diaL (rest := [.long (x1 89), .int (89 : Int32), .ref b2]) (K := (F11_set1 (vp_updL (vp_updL x1 85 ((x1 85) + (if (500 : Int64) ≤ ((F11_set1 x1 7) + (F11_div ((F11_set1 x1 8) * p1) (10 : Int64))) then ((F11_set1 x1 7) + (F11_div ((F11_set1 x1 8) * p1) (10 : Int64))) else (500 : Int64)))) 107 ((x1 107) + (if (500 : Int64) ≤ ((F11_set1 x1 7) + (F11_div ((F11_set1 x1 8) * p1) (10 : Int64))) then ((F11_set1 x1 7) + (F11_div ((F11_set1 x1 8) * p1) (10 : Int64))) else (500 : Int64)))) 9) ≤ p1) 192 (0 : Int64) (1 : Int64) (fun kt kf => ?_) ?_
    · refine w_lge (tgt := 191) hx hb dX11_produces_183 dX11_produces_184 (by decide) (fun c7 => ?_) (fun c7 => ?_)
      · have c7 : (F11_set1 (vp_updL (vp_updL x1 85 ((x1 85) + (if (500 : Int64) ≤ ((F11_set1 x1 7) + (F11_div ((F11_set1 x1 8) * p1) (10 : Int64))) then ((F11_set1 x1 7) + (F11_div ((F11_set1 x1 8) * p1) (10 : Int64))) else (500 : Int64)))) 107 ((x1 107) + (if (500 : Int64) ≤ ((F11_set1 x1 7) + (F11_div ((F11_set1 x1 8) * p1) (10 : Int64))) then ((F11_set1 x1 7) + (F11_div ((F11_set1 x1 8) * p1) (10 : Int64))) else (500 : Int64)))) 9) ≤ p1 := c7
        refine lv_lconst (v := (0 : Int64)) hx hb dX11_produces_191 rfl ?_
        exact kt c7
      · have c7 : ¬ ((F11_set1 (vp_updL (vp_updL x1 85 ((x1 85) + (if (500 : Int64) ≤ ((F11_set1 x1 7) + (F11_div ((F11_set1 x1 8) * p1) (10 : Int64))) then ((F11_set1 x1 7) + (F11_div ((F11_set1 x1 8) * p1) (10 : Int64))) else (500 : Int64)))) 107 ((x1 107) + (if (500 : Int64) ≤ ((F11_set1 x1 7) + (F11_div ((F11_set1 x1 8) * p1) (10 : Int64))) then ((F11_set1 x1 7) + (F11_div ((F11_set1 x1 8) * p1) (10 : Int64))) else (500 : Int64)))) 9) ≤ p1) := c7
        refine lv_lconst (v := (1 : Int64)) hx hb dX11_produces_187 rfl ?_
        refine lv_goto (tgt := 192) hx hb dX11_produces_188 (by decide) ?_
        exact kf c7
    refine lv_ladd hx hb dX11_produces_192 ?_
    refine w_last (f := (vp_updL (vp_updL x1 85 ((x1 85) + (if (500 : Int64) ≤ ((F11_set1 x1 7) + (F11_div ((F11_set1 x1 8) * p1) (10 : Int64))) then ((F11_set1 x1 7) + (F11_div ((F11_set1 x1 8) * p1) (10 : Int64))) else (500 : Int64)))) 107 ((x1 107) + (if (500 : Int64) ≤ ((F11_set1 x1 7) + (F11_div ((F11_set1 x1 8) * p1) (10 : Int64))) then ((F11_set1 x1 7) + (F11_div ((F11_set1 x1 8) * p1) (10 : Int64))) else (500 : Int64))))) (j := 89) hx hb hQ.1 hP hD hS 1 1 rfl rfl (rfl : (89 : Int32) = nI 89) (by omega) (by decide) dX11_produces_193 (fun H locs hP hD hS => ?_)
    have hP : va_P D vwCl (wF [gN b0 b2 b1 x0, gR cL b2 (vp_updL (vp_updL (vp_updL x1 85 ((x1 85) + (if (500 : Int64) ≤ ((F11_set1 x1 7) + (F11_div ((F11_set1 x1 8) * p1) (10 : Int64))) then ((F11_set1 x1 7) + (F11_div ((F11_set1 x1 8) * p1) (10 : Int64))) else (500 : Int64)))) 107 ((x1 107) + (if (500 : Int64) ≤ ((F11_set1 x1 7) + (F11_div ((F11_set1 x1 8) * p1) (10 : Int64))) then ((F11_set1 x1 7) + (F11_div ((F11_set1 x1 8) * p1) (10 : Int64))) else (500 : Int64)))) 89 ((x1 89) + (if (F11_set1 (vp_updL (vp_updL x1 85 ((x1 85) + (if (500 : Int64) ≤ ((F11_set1 x1 7) + (F11_div ((F11_set1 x1 8) * p1) (10 : Int64))) then ((F11_set1 x1 7) + (F11_div ((F11_set1 x1 8) * p1) (10 : Int64))) else (500 : Int64)))) 107 ((x1 107) + (if (500 : Int64) ≤ ((F11_set1 x1 7) + (F11_div ((F11_set1 x1 8) * p1) (10 : Int64))) then ((F11_set1 x1 7) + (F11_div ((F11_set1 x1 8) * p1) (10 : Int64))) else (500 : Int64)))) 9) ≤ p1 then (0 : Int64) else (1 : Int64))))]) H := hP
    have hD : va_D A (wF [gN b0 b2 b1 x0, gR cL b2 (vp_updL (vp_updL (vp_updL x1 85 ((x1 85) + (if (500 : Int64) ≤ ((F11_set1 x1 7) + (F11_div ((F11_set1 x1 8) * p1) (10 : Int64))) then ((F11_set1 x1 7) + (F11_div ((F11_set1 x1 8) * p1) (10 : Int64))) else (500 : Int64)))) 107 ((x1 107) + (if (500 : Int64) ≤ ((F11_set1 x1 7) + (F11_div ((F11_set1 x1 8) * p1) (10 : Int64))) then ((F11_set1 x1 7) + (F11_div ((F11_set1 x1 8) * p1) (10 : Int64))) else (500 : Int64)))) 89 ((x1 89) + (if (F11_set1 (vp_updL (vp_updL x1 85 ((x1 85) + (if (500 : Int64) ≤ ((F11_set1 x1 7) + (F11_div ((F11_set1 x1 8) * p1) (10 : Int64))) then ((F11_set1 x1 7) + (F11_div ((F11_set1 x1 8) * p1) (10 : Int64))) else (500 : Int64)))) 107 ((x1 107) + (if (500 : Int64) ≤ ((F11_set1 x1 7) + (F11_div ((F11_set1 x1 8) * p1) (10 : Int64))) then ((F11_set1 x1 7) + (F11_div ((F11_set1 x1 8) * p1) (10 : Int64))) else (500 : Int64)))) 9) ≤ p1 then (0 : Int64) else (1 : Int64))))]) := hD
    refine lv_goto (tgt := 248) hx hb dX11_produces_194 (by decide) ?_
    refine lv_aload_n hx hb dX11_produces_248 rfl (lv_at hl 3 rfl) ?_
    refine va_get (D := D) (ci := 11) (v := .ref b2) (C := RX11) (T := TX11) (N := 10) hx hb hts hinX11 hown hQ.1 hP 0 rfl rfl 0 (by decide) (hts (.fieldLink RX11 7 "HeatPumpPlantModel" "row" "[J") (List.mem_of_getElem? (i := 1) rfl)) (fun _ h9 => h9) rfl dX11_produces_249 ?_
    refine lv_bipush (v := (112 : Int32)) hx hb dX11_produces_252 (by decide) ?_
    refine lv_dup2_11 hx hb dX11_produces_254 rfl rfl ?_
    refine w_lald (f := (vp_updL (vp_updL (vp_updL x1 85 ((x1 85) + (if (500 : Int64) ≤ ((F11_set1 x1 7) + (F11_div ((F11_set1 x1 8) * p1) (10 : Int64))) then ((F11_set1 x1 7) + (F11_div ((F11_set1 x1 8) * p1) (10 : Int64))) else (500 : Int64)))) 107 ((x1 107) + (if (500 : Int64) ≤ ((F11_set1 x1 7) + (F11_div ((F11_set1 x1 8) * p1) (10 : Int64))) then ((F11_set1 x1 7) + (F11_div ((F11_set1 x1 8) * p1) (10 : Int64))) else (500 : Int64)))) 89 ((x1 89) + (if (F11_set1 (vp_updL (vp_updL x1 85 ((x1 85) + (if (500 : Int64) ≤ ((F11_set1 x1 7) + (F11_div ((F11_set1 x1 8) * p1) (10 : Int64))) then ((F11_set1 x1 7) + (F11_div ((F11_set1 x1 8) * p1) (10 : Int64))) else (500 : Int64)))) 107 ((x1 107) + (if (500 : Int64) ≤ ((F11_set1 x1 7) + (F11_div ((F11_set1 x1 8) * p1) (10 : Int64))) then ((F11_set1 x1 7) + (F11_div ((F11_set1 x1 8) * p1) (10 : Int64))) else (500 : Int64)))) 9) ≤ p1 then (0 : Int64) else (1 : Int64))))) (j := 112) hx hb hQ.1 hP 1 1 rfl rfl (rfl : (112 : Int32) = nI 112) (by omega) (by decide) dX11_produces_255 ?_
    refine w_topL (show ((vp_updL (vp_updL (vp_updL x1 85 ((x1 85) + (if (500 : Int64) ≤ ((F11_set1 x1 7) + (F11_div ((F11_set1 x1 8) * p1) (10 : Int64))) then ((F11_set1 x1 7) + (F11_div ((F11_set1 x1 8) * p1) (10 : Int64))) else (500 : Int64)))) 107 ((x1 107) + (if (500 : Int64) ≤ ((F11_set1 x1 7) + (F11_div ((F11_set1 x1 8) * p1) (10 : Int64))) then ((F11_set1 x1 7) + (F11_div ((F11_set1 x1 8) * p1) (10 : Int64))) else (500 : Int64)))) 89 ((x1 89) + (if (F11_set1 (vp_updL (vp_updL x1 85 ((x1 85) + (if (500 : Int64) ≤ ((F11_set1 x1 7) + (F11_div ((F11_set1 x1 8) * p1) (10 : Int64))) then ((F11_set1 x1 7) + (F11_div ((F11_set1 x1 8) * p1) (10 : Int64))) else (500 : Int64)))) 107 ((x1 107) + (if (500 : Int64) ≤ ((F11_set1 x1 7) + (F11_div ((F11_set1 x1 8) * p1) (10 : Int64))) then ((F11_set1 x1 7) + (F11_div ((F11_set1 x1 8) * p1) (10 : Int64))) else (500 : Int64)))) 9) ≤ p1 then (0 : Int64) else (1 : Int64)))) 112) = (x1 112) from (w_rd (by omega) (w_rd (by omega) (w_rd (by omega) rfl)))) ?_
    refine lv_lload hx hb dX11_produces_256 (lv_at hl 0 rfl) ?_
    refine lv_ladd hx hb dX11_produces_258 ?_
    refine w_last (f := (vp_updL (vp_updL (vp_updL x1 85 ((x1 85) + (if (500 : Int64) ≤ ((F11_set1 x1 7) + (F11_div ((F11_set1 x1 8) * p1) (10 : Int64))) then ((F11_set1 x1 7) + (F11_div ((F11_set1 x1 8) * p1) (10 : Int64))) else (500 : Int64)))) 107 ((x1 107) + (if (500 : Int64) ≤ ((F11_set1 x1 7) + (F11_div ((F11_set1 x1 8) * p1) (10 : Int64))) then ((F11_set1 x1 7) + (F11_div ((F11_set1 x1 8) * p1) (10 : Int64))) else (500 : Int64)))) 89 ((x1 89) + (if (F11_set1 (vp_updL (vp_updL x1 85 ((x1 85) + (if (500 : Int64) ≤ ((F11_set1 x1 7) + (F11_div ((F11_set1 x1 8) * p1) (10 : Int64))) then ((F11_set1 x1 7) + (F11_div ((F11_set1 x1 8) * p1) (10 : Int64))) else (500 : Int64)))) 107 ((x1 107) + (if (500 : Int64) ≤ ((F11_set1 x1 7) + (F11_div ((F11_set1 x1 8) * p1) (10 : Int64))) then ((F11_set1 x1 7) + (F11_div ((F11_set1 x1 8) * p1) (10 : Int64))) else (500 : Int64)))) 9) ≤ p1 then (0 : Int64) else (1 : Int64))))) (j := 112) hx hb hQ.1 hP hD hS 1 1 rfl rfl (rfl : (112 : Int32) = nI 112) (by omega) (by decide) dX11_produces_259 (fun H locs hP hD hS => ?_)
    have hP : va_P D vwCl (wF [gN b0 b2 b1 x0, gR cL b2 (vp_updL (vp_updL (vp_updL (vp_updL x1 85 ((x1 85) + (if (500 : Int64) ≤ ((F11_set1 x1 7) + (F11_div ((F11_set1 x1 8) * p1) (10 : Int64))) then ((F11_set1 x1 7) + (F11_div ((F11_set1 x1 8) * p1) (10 : Int64))) else (500 : Int64)))) 107 ((x1 107) + (if (500 : Int64) ≤ ((F11_set1 x1 7) + (F11_div ((F11_set1 x1 8) * p1) (10 : Int64))) then ((F11_set1 x1 7) + (F11_div ((F11_set1 x1 8) * p1) (10 : Int64))) else (500 : Int64)))) 89 ((x1 89) + (if (F11_set1 (vp_updL (vp_updL x1 85 ((x1 85) + (if (500 : Int64) ≤ ((F11_set1 x1 7) + (F11_div ((F11_set1 x1 8) * p1) (10 : Int64))) then ((F11_set1 x1 7) + (F11_div ((F11_set1 x1 8) * p1) (10 : Int64))) else (500 : Int64)))) 107 ((x1 107) + (if (500 : Int64) ≤ ((F11_set1 x1 7) + (F11_div ((F11_set1 x1 8) * p1) (10 : Int64))) then ((F11_set1 x1 7) + (F11_div ((F11_set1 x1 8) * p1) (10 : Int64))) else (500 : Int64)))) 9) ≤ p1 then (0 : Int64) else (1 : Int64)))) 112 ((x1 112) + (((((if (500 : Int64) ≤ ((F11_set1 x1 7) + (F11_div ((F11_set1 x1 8) * p1) (10 : Int64))) then ((F11_set1 x1 7) + (F11_div ((F11_set1 x1 8) * p1) (10 : Int64))) else (500 : Int64)) * (100 : Int64)) + z6) - (1 : Int64)) / z6)))]) H := hP
    have hD : va_D A (wF [gN b0 b2 b1 x0, gR cL b2 (vp_updL (vp_updL (vp_updL (vp_updL x1 85 ((x1 85) + (if (500 : Int64) ≤ ((F11_set1 x1 7) + (F11_div ((F11_set1 x1 8) * p1) (10 : Int64))) then ((F11_set1 x1 7) + (F11_div ((F11_set1 x1 8) * p1) (10 : Int64))) else (500 : Int64)))) 107 ((x1 107) + (if (500 : Int64) ≤ ((F11_set1 x1 7) + (F11_div ((F11_set1 x1 8) * p1) (10 : Int64))) then ((F11_set1 x1 7) + (F11_div ((F11_set1 x1 8) * p1) (10 : Int64))) else (500 : Int64)))) 89 ((x1 89) + (if (F11_set1 (vp_updL (vp_updL x1 85 ((x1 85) + (if (500 : Int64) ≤ ((F11_set1 x1 7) + (F11_div ((F11_set1 x1 8) * p1) (10 : Int64))) then ((F11_set1 x1 7) + (F11_div ((F11_set1 x1 8) * p1) (10 : Int64))) else (500 : Int64)))) 107 ((x1 107) + (if (500 : Int64) ≤ ((F11_set1 x1 7) + (F11_div ((F11_set1 x1 8) * p1) (10 : Int64))) then ((F11_set1 x1 7) + (F11_div ((F11_set1 x1 8) * p1) (10 : Int64))) else (500 : Int64)))) 9) ≤ p1 then (0 : Int64) else (1 : Int64)))) 112 ((x1 112) + (((((if (500 : Int64) ≤ ((F11_set1 x1 7) + (F11_div ((F11_set1 x1 8) * p1) (10 : Int64))) then ((F11_set1 x1 7) + (F11_div ((F11_set1 x1 8) * p1) (10 : Int64))) else (500 : Int64)) * (100 : Int64)) + z6) - (1 : Int64)) / z6)))]) := hD
    refine lv_aload_n hx hb dX11_produces_260 rfl (lv_at hl 3 rfl) ?_
    refine va_get (D := D) (ci := 11) (v := .ref b2) (C := RX11) (T := TX11) (N := 10) hx hb hts hinX11 hown hQ.1 hP 0 rfl rfl 0 (by decide) (hts (.fieldLink RX11 7 "HeatPumpPlantModel" "row" "[J") (List.mem_of_getElem? (i := 1) rfl)) (fun _ h9 => h9) rfl dX11_produces_261 ?_
    refine lv_bipush (v := (113 : Int32)) hx hb dX11_produces_264 (by decide) ?_
    refine lv_dup2_11 hx hb dX11_produces_266 rfl rfl ?_
    refine w_lald (f := (vp_updL (vp_updL (vp_updL (vp_updL x1 85 ((x1 85) + (if (500 : Int64) ≤ ((F11_set1 x1 7) + (F11_div ((F11_set1 x1 8) * p1) (10 : Int64))) then ((F11_set1 x1 7) + (F11_div ((F11_set1 x1 8) * p1) (10 : Int64))) else (500 : Int64)))) 107 ((x1 107) + (if (500 : Int64) ≤ ((F11_set1 x1 7) + (F11_div ((F11_set1 x1 8) * p1) (10 : Int64))) then ((F11_set1 x1 7) + (F11_div ((F11_set1 x1 8) * p1) (10 : Int64))) else (500 : Int64)))) 89 ((x1 89) + (if (F11_set1 (vp_updL (vp_updL x1 85 ((x1 85) + (if (500 : Int64) ≤ ((F11_set1 x1 7) + (F11_div ((F11_set1 x1 8) * p1) (10 : Int64))) then ((F11_set1 x1 7) + (F11_div ((F11_set1 x1 8) * p1) (10 : Int64))) else (500 : Int64)))) 107 ((x1 107) + (if (500 : Int64) ≤ ((F11_set1 x1 7) + (F11_div ((F11_set1 x1 8) * p1) (10 : Int64))) then ((F11_set1 x1 7) + (F11_div ((F11_set1 x1 8) * p1) (10 : Int64))) else (500 : Int64)))) 9) ≤ p1 then (0 : Int64) else (1 : Int64)))) 112 ((x1 112) + (((((if (500 : Int64) ≤ ((F11_set1 x1 7) + (F11_div ((F11_set1 x1 8) * p1) (10 : Int64))) then ((F11_set1 x1 7) + (F11_div ((F11_set1 x1 8) * p1) (10 : Int64))) else (500 : Int64)) * (100 : Int64)) + z6) - (1 : Int64)) / z6)))) (j := 113) hx hb hQ.1 hP 1 1 rfl rfl (rfl : (113 : Int32) = nI 113) (by omega) (by decide) dX11_produces_267 ?_
    refine w_topL (show ((vp_updL (vp_updL (vp_updL (vp_updL x1 85 ((x1 85) + (if (500 : Int64) ≤ ((F11_set1 x1 7) + (F11_div ((F11_set1 x1 8) * p1) (10 : Int64))) then ((F11_set1 x1 7) + (F11_div ((F11_set1 x1 8) * p1) (10 : Int64))) else (500 : Int64)))) 107 ((x1 107) + (if (500 : Int64) ≤ ((F11_set1 x1 7) + (F11_div ((F11_set1 x1 8) * p1) (10 : Int64))) then ((F11_set1 x1 7) + (F11_div ((F11_set1 x1 8) * p1) (10 : Int64))) else (500 : Int64)))) 89 ((x1 89) + (if (F11_set1 (vp_updL (vp_updL x1 85 ((x1 85) + (if (500 : Int64) ≤ ((F11_set1 x1 7) + (F11_div ((F11_set1 x1 8) * p1) (10 : Int64))) then ((F11_set1 x1 7) + (F11_div ((F11_set1 x1 8) * p1) (10 : Int64))) else (500 : Int64)))) 107 ((x1 107) + (if (500 : Int64) ≤ ((F11_set1 x1 7) + (F11_div ((F11_set1 x1 8) * p1) (10 : Int64))) then ((F11_set1 x1 7) + (F11_div ((F11_set1 x1 8) * p1) (10 : Int64))) else (500 : Int64)))) 9) ≤ p1 then (0 : Int64) else (1 : Int64)))) 112 ((x1 112) + (((((if (500 : Int64) ≤ ((F11_set1 x1 7) + (F11_div ((F11_set1 x1 8) * p1) (10 : Int64))) then ((F11_set1 x1 7) + (F11_div ((F11_set1 x1 8) * p1) (10 : Int64))) else (500 : Int64)) * (100 : Int64)) + z6) - (1 : Int64)) / z6))) 113) = (x1 113) from (w_rd (by omega) (w_rd (by omega) (w_rd (by omega) (w_rd (by omega) rfl))))) ?_
    refine lv_lload hx hb dX11_produces_268 (lv_at hl 0 rfl) ?_
    refine lv_aload_n hx hb dX11_produces_270 rfl (lv_at hl 3 rfl) ?_
    refine va_get (D := D) (ci := 11) (v := .ref b2) (C := RX11) (T := TX11) (N := 10) hx hb hts hinX11 hown hQ.1 hP 0 rfl rfl 0 (by decide) (hts (.fieldLink RX11 7 "HeatPumpPlantModel" "row" "[J") (List.mem_of_getElem? (i := 1) rfl)) (fun _ h9 => h9) rfl dX11_produces_271 ?_
    refine lv_bipush (v := (65 : Int32)) hx hb dX11_produces_274 (by decide) ?_
    refine lv_lload_n hx hb dX11_produces_276 rfl (lv_at hl 5 rfl) ?_
    refine lv_l2i hx hb dX11_produces_277 rfl ?_
    refine lv_iadd hx hb dX11_produces_278 ?_
    refine w_lald (f := (vp_updL (vp_updL (vp_updL (vp_updL x1 85 ((x1 85) + (if (500 : Int64) ≤ ((F11_set1 x1 7) + (F11_div ((F11_set1 x1 8) * p1) (10 : Int64))) then ((F11_set1 x1 7) + (F11_div ((F11_set1 x1 8) * p1) (10 : Int64))) else (500 : Int64)))) 107 ((x1 107) + (if (500 : Int64) ≤ ((F11_set1 x1 7) + (F11_div ((F11_set1 x1 8) * p1) (10 : Int64))) then ((F11_set1 x1 7) + (F11_div ((F11_set1 x1 8) * p1) (10 : Int64))) else (500 : Int64)))) 89 ((x1 89) + (if (F11_set1 (vp_updL (vp_updL x1 85 ((x1 85) + (if (500 : Int64) ≤ ((F11_set1 x1 7) + (F11_div ((F11_set1 x1 8) * p1) (10 : Int64))) then ((F11_set1 x1 7) + (F11_div ((F11_set1 x1 8) * p1) (10 : Int64))) else (500 : Int64)))) 107 ((x1 107) + (if (500 : Int64) ≤ ((F11_set1 x1 7) + (F11_div ((F11_set1 x1 8) * p1) (10 : Int64))) then ((F11_set1 x1 7) + (F11_div ((F11_set1 x1 8) * p1) (10 : Int64))) else (500 : Int64)))) 9) ≤ p1 then (0 : Int64) else (1 : Int64)))) 112 ((x1 112) + (((((if (500 : Int64) ≤ ((F11_set1 x1 7) + (F11_div ((F11_set1 x1 8) * p1) (10 : Int64))) then ((F11_set1 x1 7) + (F11_div ((F11_set1 x1 8) * p1) (10 : Int64))) else (500 : Int64)) * (100 : Int64)) + z6) - (1 : Int64)) / z6)))) (j := (65 + (nT p2))) hx hb hQ.1 hP 1 1 rfl rfl ((congr (congrArg HAdd.hAdd (show (65 : Int32) = nI 65 from (rfl : (65 : Int32) = nI 65))) (show p2.toInt32 = nI (nT p2) from (w_nTi his))).trans (nI_add 65 (nT p2))) (by omega) (by decide) dX11_produces_279 ?_
    refine w_topL (show ((vp_updL (vp_updL (vp_updL (vp_updL x1 85 ((x1 85) + (if (500 : Int64) ≤ ((F11_set1 x1 7) + (F11_div ((F11_set1 x1 8) * p1) (10 : Int64))) then ((F11_set1 x1 7) + (F11_div ((F11_set1 x1 8) * p1) (10 : Int64))) else (500 : Int64)))) 107 ((x1 107) + (if (500 : Int64) ≤ ((F11_set1 x1 7) + (F11_div ((F11_set1 x1 8) * p1) (10 : Int64))) then ((F11_set1 x1 7) + (F11_div ((F11_set1 x1 8) * p1) (10 : Int64))) else (500 : Int64)))) 89 ((x1 89) + (if (F11_set1 (vp_updL (vp_updL x1 85 ((x1 85) + (if (500 : Int64) ≤ ((F11_set1 x1 7) + (F11_div ((F11_set1 x1 8) * p1) (10 : Int64))) then ((F11_set1 x1 7) + (F11_div ((F11_set1 x1 8) * p1) (10 : Int64))) else (500 : Int64)))) 107 ((x1 107) + (if (500 : Int64) ≤ ((F11_set1 x1 7) + (F11_div ((F11_set1 x1 8) * p1) (10 : Int64))) then ((F11_set1 x1 7) + (F11_div ((F11_set1 x1 8) * p1) (10 : Int64))) else (500 : Int64)))) 9) ≤ p1 then (0 : Int64) else (1 : Int64)))) 112 ((x1 112) + (((((if (500 : Int64) ≤ ((F11_set1 x1 7) + (F11_div ((F11_set1 x1 8) * p1) (10 : Int64))) then ((F11_set1 x1 7) + (F11_div ((F11_set1 x1 8) * p1) (10 : Int64))) else (500 : Int64)) * (100 : Int64)) + z6) - (1 : Int64)) / z6))) (65 + (nT p2))) = (x1 (65 + (nT p2))) from (w_rd (by omega) (w_rd (by omega) (w_rd (by omega) (w_rd (by omega) rfl))))) ?_
    refine lv_lmul hx hb dX11_produces_280 ?_
    refine lv_ladd hx hb dX11_produces_281 ?_
    refine w_last (f := (vp_updL (vp_updL (vp_updL (vp_updL x1 85 ((x1 85) + (if (500 : Int64) ≤ ((F11_set1 x1 7) + (F11_div ((F11_set1 x1 8) * p1) (10 : Int64))) then ((F11_set1 x1 7) + (F11_div ((F11_set1 x1 8) * p1) (10 : Int64))) else (500 : Int64)))) 107 ((x1 107) + (if (500 : Int64) ≤ ((F11_set1 x1 7) + (F11_div ((F11_set1 x1 8) * p1) (10 : Int64))) then ((F11_set1 x1 7) + (F11_div ((F11_set1 x1 8) * p1) (10 : Int64))) else (500 : Int64)))) 89 ((x1 89) + (if (F11_set1 (vp_updL (vp_updL x1 85 ((x1 85) + (if (500 : Int64) ≤ ((F11_set1 x1 7) + (F11_div ((F11_set1 x1 8) * p1) (10 : Int64))) then ((F11_set1 x1 7) + (F11_div ((F11_set1 x1 8) * p1) (10 : Int64))) else (500 : Int64)))) 107 ((x1 107) + (if (500 : Int64) ≤ ((F11_set1 x1 7) + (F11_div ((F11_set1 x1 8) * p1) (10 : Int64))) then ((F11_set1 x1 7) + (F11_div ((F11_set1 x1 8) * p1) (10 : Int64))) else (500 : Int64)))) 9) ≤ p1 then (0 : Int64) else (1 : Int64)))) 112 ((x1 112) + (((((if (500 : Int64) ≤ ((F11_set1 x1 7) + (F11_div ((F11_set1 x1 8) * p1) (10 : Int64))) then ((F11_set1 x1 7) + (F11_div ((F11_set1 x1 8) * p1) (10 : Int64))) else (500 : Int64)) * (100 : Int64)) + z6) - (1 : Int64)) / z6)))) (j := 113) hx hb hQ.1 hP hD hS 1 1 rfl rfl (rfl : (113 : Int32) = nI 113) (by omega) (by decide) dX11_produces_282 (fun H locs hP hD hS => ?_)
    have hP : va_P D vwCl (wF [gN b0 b2 b1 x0, gR cL b2 (vp_updL (vp_updL (vp_updL (vp_updL (vp_updL x1 85 ((x1 85) + (if (500 : Int64) ≤ ((F11_set1 x1 7) + (F11_div ((F11_set1 x1 8) * p1) (10 : Int64))) then ((F11_set1 x1 7) + (F11_div ((F11_set1 x1 8) * p1) (10 : Int64))) else (500 : Int64)))) 107 ((x1 107) + (if (500 : Int64) ≤ ((F11_set1 x1 7) + (F11_div ((F11_set1 x1 8) * p1) (10 : Int64))) then ((F11_set1 x1 7) + (F11_div ((F11_set1 x1 8) * p1) (10 : Int64))) else (500 : Int64)))) 89 ((x1 89) + (if (F11_set1 (vp_updL (vp_updL x1 85 ((x1 85) + (if (500 : Int64) ≤ ((F11_set1 x1 7) + (F11_div ((F11_set1 x1 8) * p1) (10 : Int64))) then ((F11_set1 x1 7) + (F11_div ((F11_set1 x1 8) * p1) (10 : Int64))) else (500 : Int64)))) 107 ((x1 107) + (if (500 : Int64) ≤ ((F11_set1 x1 7) + (F11_div ((F11_set1 x1 8) * p1) (10 : Int64))) then ((F11_set1 x1 7) + (F11_div ((F11_set1 x1 8) * p1) (10 : Int64))) else (500 : Int64)))) 9) ≤ p1 then (0 : Int64) else (1 : Int64)))) 112 ((x1 112) + (((((if (500 : Int64) ≤ ((F11_set1 x1 7) + (F11_div ((F11_set1 x1 8) * p1) (10 : Int64))) then ((F11_set1 x1 7) + (F11_div ((F11_set1 x1 8) * p1) (10 : Int64))) else (500 : Int64)) * (100 : Int64)) + z6) - (1 : Int64)) / z6))) 113 ((x1 113) + ((((((if (500 : Int64) ≤ ((F11_set1 x1 7) + (F11_div ((F11_set1 x1 8) * p1) (10 : Int64))) then ((F11_set1 x1 7) + (F11_div ((F11_set1 x1 8) * p1) (10 : Int64))) else (500 : Int64)) * (100 : Int64)) + z6) - (1 : Int64)) / z6) * (x1 (65 + (nT p2))))))]) H := hP
    have hD : va_D A (wF [gN b0 b2 b1 x0, gR cL b2 (vp_updL (vp_updL (vp_updL (vp_updL (vp_updL x1 85 ((x1 85) + (if (500 : Int64) ≤ ((F11_set1 x1 7) + (F11_div ((F11_set1 x1 8) * p1) (10 : Int64))) then ((F11_set1 x1 7) + (F11_div ((F11_set1 x1 8) * p1) (10 : Int64))) else (500 : Int64)))) 107 ((x1 107) + (if (500 : Int64) ≤ ((F11_set1 x1 7) + (F11_div ((F11_set1 x1 8) * p1) (10 : Int64))) then ((F11_set1 x1 7) + (F11_div ((F11_set1 x1 8) * p1) (10 : Int64))) else (500 : Int64)))) 89 ((x1 89) + (if (F11_set1 (vp_updL (vp_updL x1 85 ((x1 85) + (if (500 : Int64) ≤ ((F11_set1 x1 7) + (F11_div ((F11_set1 x1 8) * p1) (10 : Int64))) then ((F11_set1 x1 7) + (F11_div ((F11_set1 x1 8) * p1) (10 : Int64))) else (500 : Int64)))) 107 ((x1 107) + (if (500 : Int64) ≤ ((F11_set1 x1 7) + (F11_div ((F11_set1 x1 8) * p1) (10 : Int64))) then ((F11_set1 x1 7) + (F11_div ((F11_set1 x1 8) * p1) (10 : Int64))) else (500 : Int64)))) 9) ≤ p1 then (0 : Int64) else (1 : Int64)))) 112 ((x1 112) + (((((if (500 : Int64) ≤ ((F11_set1 x1 7) + (F11_div ((F11_set1 x1 8) * p1) (10 : Int64))) then ((F11_set1 x1 7) + (F11_div ((F11_set1 x1 8) * p1) (10 : Int64))) else (500 : Int64)) * (100 : Int64)) + z6) - (1 : Int64)) / z6))) 113 ((x1 113) + ((((((if (500 : Int64) ≤ ((F11_set1 x1 7) + (F11_div ((F11_set1 x1 8) * p1) (10 : Int64))) then ((F11_set1 x1 7) + (F11_div ((F11_set1 x1 8) * p1) (10 : Int64))) else (500 : Int64)) * (100 : Int64)) + z6) - (1 : Int64)) / z6) * (x1 (65 + (nT p2))))))]) := hD
    exact W.vret hx hb hr (fun t ht hW => ⟨⟨(vp_updL (vp_updL (vp_updL (vp_updL (vp_updL x1 85 ((x1 85) + (if (500 : Int64) ≤ ((F11_set1 x1 7) + (F11_div ((F11_set1 x1 8) * p1) (10 : Int64))) then ((F11_set1 x1 7) + (F11_div ((F11_set1 x1 8) * p1) (10 : Int64))) else (500 : Int64)))) 107 ((x1 107) + (if (500 : Int64) ≤ ((F11_set1 x1 7) + (F11_div ((F11_set1 x1 8) * p1) (10 : Int64))) then ((F11_set1 x1 7) + (F11_div ((F11_set1 x1 8) * p1) (10 : Int64))) else (500 : Int64)))) 89 ((x1 89) + (if (F11_set1 (vp_updL (vp_updL x1 85 ((x1 85) + (if (500 : Int64) ≤ ((F11_set1 x1 7) + (F11_div ((F11_set1 x1 8) * p1) (10 : Int64))) then ((F11_set1 x1 7) + (F11_div ((F11_set1 x1 8) * p1) (10 : Int64))) else (500 : Int64)))) 107 ((x1 107) + (if (500 : Int64) ≤ ((F11_set1 x1 7) + (F11_div ((F11_set1 x1 8) * p1) (10 : Int64))) then ((F11_set1 x1 7) + (F11_div ((F11_set1 x1 8) * p1) (10 : Int64))) else (500 : Int64)))) 9) ≤ p1 then (0 : Int64) else (1 : Int64)))) 112 ((x1 112) + (((((if (500 : Int64) ≤ ((F11_set1 x1 7) + (F11_div ((F11_set1 x1 8) * p1) (10 : Int64))) then ((F11_set1 x1 7) + (F11_div ((F11_set1 x1 8) * p1) (10 : Int64))) else (500 : Int64)) * (100 : Int64)) + z6) - (1 : Int64)) / z6))) 113 ((x1 113) + ((((((if (500 : Int64) ≤ ((F11_set1 x1 7) + (F11_div ((F11_set1 x1 8) * p1) (10 : Int64))) then ((F11_set1 x1 7) + (F11_div ((F11_set1 x1 8) * p1) (10 : Int64))) else (500 : Int64)) * (100 : Int64)) + z6) - (1 : Int64)) / z6) * (x1 (65 + (nT p2)))))), rfl, ((Eq.trans (if_pos c1) (Eq.trans (congrArg (K11_produces_1 x0 x1 p1 p2) hz6.symm) (rfl))).symm), by rw [ht]; exact hP, hD⟩, hS.F ht⟩) hS.2.2 dX11_produces_283
theorem pro_o (x0 : MoN) (x1 : Nat → Int64) (p1 p2 : Int64) : mOe x1 (F11_produces x0 x1 p1 p2) := by
  unfold F11_produces
  repeat' split
  all_goals
    (try unfold K11_produces_1)
    repeat refine mOe.u ?_ (by omega) _
    exact mOe.r
def F11_draws (x1 : (Nat → Int64)) (p1 : Int64) : (Nat → Int64) := (vp_updL (vp_updL (vp_updL x1 82 ((x1 82) - (if (0 : Int64) ≤ (if ((x1 82) - ((200 : Int64) * (x1 81))) ≤ p1 then ((x1 82) - ((200 : Int64) * (x1 81))) else p1) then (if ((x1 82) - ((200 : Int64) * (x1 81))) ≤ p1 then ((x1 82) - ((200 : Int64) * (x1 81))) else p1) else (0 : Int64)))) 109 ((x1 109) + (if (0 : Int64) ≤ (if ((x1 82) - ((200 : Int64) * (x1 81))) ≤ p1 then ((x1 82) - ((200 : Int64) * (x1 81))) else p1) then (if ((x1 82) - ((200 : Int64) * (x1 81))) ≤ p1 then ((x1 82) - ((200 : Int64) * (x1 81))) else p1) else (0 : Int64)))) 110 ((x1 110) + (p1 - (if (0 : Int64) ≤ (if ((x1 82) - ((200 : Int64) * (x1 81))) ≤ p1 then ((x1 82) - ((200 : Int64) * (x1 81))) else p1) then (if ((x1 82) - ((200 : Int64) * (x1 81))) ≤ p1 then ((x1 82) - ((200 : Int64) * (x1 81))) else p1) else (0 : Int64)))))
set_option maxHeartbeats 4000000 in
set_option maxRecDepth 100000 in
theorem m11_draws (l : Launch) (D : va_G) (cI cL cP : ClassId) (b0 : Nat) (b1 : Nat) (b2 : Nat) (x0 : MoN) (x1 : (Nat → Int64)) (p1 : Int64) (sz : Nat) : Met l yX11_draws wsX11_draws ({ frames := 0, cells := 0, slots := 0, locals := 0 }) (va_Pc [.ref b0, .long p1] (pM D cI cL cP sz (wF [gN b0 b2 b1 x0, gR cL b2 x1]))) (va_Qv (fun (w : (Nat → Int64)) => w = F11_draws x1 p1) (qW D (va_A (wF [gN b0 b2 b1 x0, gR cL b2 x1]) sz) (fun w : (Nat → Int64) => (wF [gN b0 b2 b1 x0, gR cL b2 w]))) (va_A (wF [gN b0 b2 b1 x0, gR cL b2 x1]) sz)) 0 0 (va_A (wF [gN b0 b2 b1 x0, gR cL b2 x1]) sz) := by
  refine Met.ofW (cc := cX11_draws) (maxL := 7) (ret := none) (by decide) rfl ?_
  intro p e s m args below meth c s₁ B hml hv
  obtain ⟨rfl, hsz, hP, hQ, hD0⟩ := hv
  have hx := B.exec
  have hb := B.bytes
  have hr := B.returns
  have hts := atoms_spec (ws := wsX11_draws) B.pre
  have hown : s.vm.findClass RX11 = some m.cls := findClass_of_methodNamed B.named
  have hlocks := B.notSynchronized
  subst hsz
  have hD := hD0.self (sz := s.heap.size)
  generalize hAe : va_A (wF [gN b0 b2 b1 x0, gR cL b2 x1]) s.heap.size = A at hD ⊢
  have hA : ∀ q : Nat, s.heap.size ≤ q → A q := fun q h => by rw [← hAe]; exact Or.inr h
  have hS : va_S A s.heap s.heap [] := va_S.rf
  have hP : va_P D vwCl (wF [gN b0 b2 b1 x0, gR cL b2 x1]) s.heap := hP
  have hl := lv_entry ([.ref b0, .long p1]) (n := 7) (Nat.le_of_ble_eq_true rfl)
  rw [lg_entry_eq]
  generalize (lg_sl ([.ref b0, .long p1]) ++ List.replicate (7 - (lg_sl ([.ref b0, .long p1])).length) Slot.unset).toArray = ls at hl ⊢
  have hl : lv_has ls 7 [(0, .ref b0), (1, .long p1)] := hl
  have hinX11 : ∀ w ∈ wsX110, w ∈ wsX11_draws := fun _ h => List.mem_cons_of_mem _ (List.mem_append_right _ h)
  refine lv_aload_n hx hb dX11_draws_0 rfl (lv_at hl 0 rfl) ?_
  refine va_get (D := D) (ci := 11) (v := .ref b2) (C := RX11) (T := TX11) (N := 10) hx hb hts hinX11 hown hQ.1 hP 0 rfl rfl 0 (by decide) (hts (.fieldLink RX11 7 "HeatPumpPlantModel" "row" "[J") (List.mem_of_getElem? (i := 1) rfl)) (fun _ h9 => h9) rfl dX11_draws_1 ?_
  refine lv_bipush (v := (82 : Int32)) hx hb dX11_draws_4 (by decide) ?_
  refine w_lald (f := x1) (j := 82) hx hb hQ.1 hP 1 1 rfl rfl (rfl : (82 : Int32) = nI 82) (by omega) (by decide) dX11_draws_6 ?_
  refine lv_ldc2 (own := RX11) (index := 35) (v := (200 : Int64)) hx hb hown (hts (.constantLong RX11 35 (200)) (List.mem_of_getElem? (i := 2) rfl)) dX11_draws_7 ?_
  refine lv_aload_n hx hb dX11_draws_10 rfl (lv_at hl 0 rfl) ?_
  refine va_get (D := D) (ci := 11) (v := .ref b2) (C := RX11) (T := TX11) (N := 10) hx hb hts hinX11 hown hQ.1 hP 0 rfl rfl 0 (by decide) (hts (.fieldLink RX11 7 "HeatPumpPlantModel" "row" "[J") (List.mem_of_getElem? (i := 1) rfl)) (fun _ h9 => h9) rfl dX11_draws_11 ?_
  refine lv_bipush (v := (81 : Int32)) hx hb dX11_draws_14 (by decide) ?_
  refine w_lald (f := x1) (j := 81) hx hb hQ.1 hP 1 1 rfl rfl (rfl : (81 : Int32) = nI 81) (by omega) (by decide) dX11_draws_16 ?_
  refine lv_lmul hx hb dX11_draws_17 ?_
  refine lv_lsub hx hb dX11_draws_18 ?_
  refine lv_lstore_n (lv' := [(3, .long ((x1 82) - ((200 : Int64) * (x1 81)))), (0, .ref b0), (1, .long p1)]) hx hb dX11_draws_19 rfl hl (by decide) rfl (fun ls hl => ?_)
  refine lv_lload_n hx hb dX11_draws_20 rfl (lv_at hl 2 rfl) ?_
  refine lv_lload_n hx hb dX11_draws_21 rfl (lv_at hl 0 rfl) ?_
  refine w_diaL (rest := []) (K := ((x1 82) - ((200 : Int64) * (x1 81))) ≤ p1) 31 ((x1 82) - ((200 : Int64) * (x1 81))) p1 (fun kt kf => ?_) ?_
  · refine w_lge (tgt := 30) hx hb dX11_draws_22 dX11_draws_23 (by decide) (fun c1 => ?_) (fun c1 => ?_)
    · have c1 : ((x1 82) - ((200 : Int64) * (x1 81))) ≤ p1 := c1
      refine lv_lload_n hx hb dX11_draws_30 rfl (lv_at hl 0 rfl) ?_
      exact kt c1
    · have c1 : ¬ (((x1 82) - ((200 : Int64) * (x1 81))) ≤ p1) := c1
      refine lv_lload_n hx hb dX11_draws_26 rfl (lv_at hl 2 rfl) ?_
      refine lv_goto (tgt := 31) hx hb dX11_draws_27 (by decide) ?_
      exact kf c1
  refine lv_lstore (lv' := [(5, .long (if ((x1 82) - ((200 : Int64) * (x1 81))) ≤ p1 then ((x1 82) - ((200 : Int64) * (x1 81))) else p1)), (3, .long ((x1 82) - ((200 : Int64) * (x1 81)))), (0, .ref b0), (1, .long p1)]) hx hb dX11_draws_31 hl (by decide) rfl (fun ls hl => ?_)
  refine lv_lload hx hb dX11_draws_33 (lv_at hl 0 rfl) ?_
  refine lv_lconst (v := (0 : Int64)) hx hb dX11_draws_35 rfl ?_
  refine w_diaL (rest := []) (K := (0 : Int64) ≤ (if ((x1 82) - ((200 : Int64) * (x1 81))) ≤ p1 then ((x1 82) - ((200 : Int64) * (x1 81))) else p1)) 46 (if ((x1 82) - ((200 : Int64) * (x1 81))) ≤ p1 then ((x1 82) - ((200 : Int64) * (x1 81))) else p1) (0 : Int64) (fun kt kf => ?_) ?_
  · refine w_lge (tgt := 44) hx hb dX11_draws_36 dX11_draws_37 (by decide) (fun c2 => ?_) (fun c2 => ?_)
    · have c2 : (0 : Int64) ≤ (if ((x1 82) - ((200 : Int64) * (x1 81))) ≤ p1 then ((x1 82) - ((200 : Int64) * (x1 81))) else p1) := c2
      refine lv_lload hx hb dX11_draws_44 (lv_at hl 0 rfl) ?_
      exact kt c2
    · have c2 : ¬ ((0 : Int64) ≤ (if ((x1 82) - ((200 : Int64) * (x1 81))) ≤ p1 then ((x1 82) - ((200 : Int64) * (x1 81))) else p1)) := c2
      refine lv_lconst (v := (0 : Int64)) hx hb dX11_draws_40 rfl ?_
      refine lv_goto (tgt := 46) hx hb dX11_draws_41 (by decide) ?_
      exact kf c2
  refine lv_lstore (lv' := [(5, .long (if (0 : Int64) ≤ (if ((x1 82) - ((200 : Int64) * (x1 81))) ≤ p1 then ((x1 82) - ((200 : Int64) * (x1 81))) else p1) then (if ((x1 82) - ((200 : Int64) * (x1 81))) ≤ p1 then ((x1 82) - ((200 : Int64) * (x1 81))) else p1) else (0 : Int64))), (3, .long ((x1 82) - ((200 : Int64) * (x1 81)))), (0, .ref b0), (1, .long p1)]) hx hb dX11_draws_46 hl (by decide) rfl (fun ls hl => ?_)
  refine lv_aload_n hx hb dX11_draws_48 rfl (lv_at hl 2 rfl) ?_
  refine va_get (D := D) (ci := 11) (v := .ref b2) (C := RX11) (T := TX11) (N := 10) hx hb hts hinX11 hown hQ.1 hP 0 rfl rfl 0 (by decide) (hts (.fieldLink RX11 7 "HeatPumpPlantModel" "row" "[J") (List.mem_of_getElem? (i := 1) rfl)) (fun _ h9 => h9) rfl dX11_draws_49 ?_
  refine lv_bipush (v := (82 : Int32)) hx hb dX11_draws_52 (by decide) ?_
  refine lv_dup2_11 hx hb dX11_draws_54 rfl rfl ?_
  refine w_lald (f := x1) (j := 82) hx hb hQ.1 hP 1 1 rfl rfl (rfl : (82 : Int32) = nI 82) (by omega) (by decide) dX11_draws_55 ?_
  refine lv_lload hx hb dX11_draws_56 (lv_at hl 0 rfl) ?_
  refine lv_lsub hx hb dX11_draws_58 ?_
  refine w_last (f := x1) (j := 82) hx hb hQ.1 hP hD hS 1 1 rfl rfl (rfl : (82 : Int32) = nI 82) (by omega) (by decide) dX11_draws_59 (fun H locs hP hD hS => ?_)
  have hP : va_P D vwCl (wF [gN b0 b2 b1 x0, gR cL b2 (vp_updL x1 82 ((x1 82) - (if (0 : Int64) ≤ (if ((x1 82) - ((200 : Int64) * (x1 81))) ≤ p1 then ((x1 82) - ((200 : Int64) * (x1 81))) else p1) then (if ((x1 82) - ((200 : Int64) * (x1 81))) ≤ p1 then ((x1 82) - ((200 : Int64) * (x1 81))) else p1) else (0 : Int64))))]) H := hP
  have hD : va_D A (wF [gN b0 b2 b1 x0, gR cL b2 (vp_updL x1 82 ((x1 82) - (if (0 : Int64) ≤ (if ((x1 82) - ((200 : Int64) * (x1 81))) ≤ p1 then ((x1 82) - ((200 : Int64) * (x1 81))) else p1) then (if ((x1 82) - ((200 : Int64) * (x1 81))) ≤ p1 then ((x1 82) - ((200 : Int64) * (x1 81))) else p1) else (0 : Int64))))]) := hD
  refine lv_aload_n hx hb dX11_draws_60 rfl (lv_at hl 2 rfl) ?_
  refine va_get (D := D) (ci := 11) (v := .ref b2) (C := RX11) (T := TX11) (N := 10) hx hb hts hinX11 hown hQ.1 hP 0 rfl rfl 0 (by decide) (hts (.fieldLink RX11 7 "HeatPumpPlantModel" "row" "[J") (List.mem_of_getElem? (i := 1) rfl)) (fun _ h9 => h9) rfl dX11_draws_61 ?_
  refine lv_bipush (v := (109 : Int32)) hx hb dX11_draws_64 (by decide) ?_
  refine lv_dup2_11 hx hb dX11_draws_66 rfl rfl ?_
  refine w_lald (f := (vp_updL x1 82 ((x1 82) - (if (0 : Int64) ≤ (if ((x1 82) - ((200 : Int64) * (x1 81))) ≤ p1 then ((x1 82) - ((200 : Int64) * (x1 81))) else p1) then (if ((x1 82) - ((200 : Int64) * (x1 81))) ≤ p1 then ((x1 82) - ((200 : Int64) * (x1 81))) else p1) else (0 : Int64))))) (j := 109) hx hb hQ.1 hP 1 1 rfl rfl (rfl : (109 : Int32) = nI 109) (by omega) (by decide) dX11_draws_67 ?_
  refine w_topL (show ((vp_updL x1 82 ((x1 82) - (if (0 : Int64) ≤ (if ((x1 82) - ((200 : Int64) * (x1 81))) ≤ p1 then ((x1 82) - ((200 : Int64) * (x1 81))) else p1) then (if ((x1 82) - ((200 : Int64) * (x1 81))) ≤ p1 then ((x1 82) - ((200 : Int64) * (x1 81))) else p1) else (0 : Int64)))) 109) = (x1 109) from (w_rd (by omega) rfl)) ?_
  refine lv_lload hx hb dX11_draws_68 (lv_at hl 0 rfl) ?_
  refine lv_ladd hx hb dX11_draws_70 ?_
  refine w_last (f := (vp_updL x1 82 ((x1 82) - (if (0 : Int64) ≤ (if ((x1 82) - ((200 : Int64) * (x1 81))) ≤ p1 then ((x1 82) - ((200 : Int64) * (x1 81))) else p1) then (if ((x1 82) - ((200 : Int64) * (x1 81))) ≤ p1 then ((x1 82) - ((200 : Int64) * (x1 81))) else p1) else (0 : Int64))))) (j := 109) hx hb hQ.1 hP hD hS 1 1 rfl rfl (rfl : (109 : Int32) = nI 109) (by omega) (by decide) dX11_draws_71 (fun H locs hP hD hS => ?_)
  have hP : va_P D vwCl (wF [gN b0 b2 b1 x0, gR cL b2 (vp_updL (vp_updL x1 82 ((x1 82) - (if (0 : Int64) ≤ (if ((x1 82) - ((200 : Int64) * (x1 81))) ≤ p1 then ((x1 82) - ((200 : Int64) * (x1 81))) else p1) then (if ((x1 82) - ((200 : Int64) * (x1 81))) ≤ p1 then ((x1 82) - ((200 : Int64) * (x1 81))) else p1) else (0 : Int64)))) 109 ((x1 109) + (if (0 : Int64) ≤ (if ((x1 82) - ((200 : Int64) * (x1 81))) ≤ p1 then ((x1 82) - ((200 : Int64) * (x1 81))) else p1) then (if ((x1 82) - ((200 : Int64) * (x1 81))) ≤ p1 then ((x1 82) - ((200 : Int64) * (x1 81))) else p1) else (0 : Int64))))]) H := hP
  have hD : va_D A (wF [gN b0 b2 b1 x0, gR cL b2 (vp_updL (vp_updL x1 82 ((x1 82) - (if (0 : Int64) ≤ (if ((x1 82) - ((200 : Int64) * (x1 81))) ≤ p1 then ((x1 82) - ((200 : Int64) * (x1 81))) else p1) then (if ((x1 82) - ((200 : Int64) * (x1 81))) ≤ p1 then ((x1 82) - ((200 : Int64) * (x1 81))) else p1) else (0 : Int64)))) 109 ((x1 109) + (if (0 : Int64) ≤ (if ((x1 82) - ((200 : Int64) * (x1 81))) ≤ p1 then ((x1 82) - ((200 : Int64) * (x1 81))) else p1) then (if ((x1 82) - ((200 : Int64) * (x1 81))) ≤ p1 then ((x1 82) - ((200 : Int64) * (x1 81))) else p1) else (0 : Int64))))]) := hD
  refine lv_aload_n hx hb dX11_draws_72 rfl (lv_at hl 2 rfl) ?_
  refine va_get (D := D) (ci := 11) (v := .ref b2) (C := RX11) (T := TX11) (N := 10) hx hb hts hinX11 hown hQ.1 hP 0 rfl rfl 0 (by decide) (hts (.fieldLink RX11 7 "HeatPumpPlantModel" "row" "[J") (List.mem_of_getElem? (i := 1) rfl)) (fun _ h9 => h9) rfl dX11_draws_73 ?_
  refine lv_bipush (v := (110 : Int32)) hx hb dX11_draws_76 (by decide) ?_
  refine lv_dup2_11 hx hb dX11_draws_78 rfl rfl ?_
  refine w_lald (f := (vp_updL (vp_updL x1 82 ((x1 82) - (if (0 : Int64) ≤ (if ((x1 82) - ((200 : Int64) * (x1 81))) ≤ p1 then ((x1 82) - ((200 : Int64) * (x1 81))) else p1) then (if ((x1 82) - ((200 : Int64) * (x1 81))) ≤ p1 then ((x1 82) - ((200 : Int64) * (x1 81))) else p1) else (0 : Int64)))) 109 ((x1 109) + (if (0 : Int64) ≤ (if ((x1 82) - ((200 : Int64) * (x1 81))) ≤ p1 then ((x1 82) - ((200 : Int64) * (x1 81))) else p1) then (if ((x1 82) - ((200 : Int64) * (x1 81))) ≤ p1 then ((x1 82) - ((200 : Int64) * (x1 81))) else p1) else (0 : Int64))))) (j := 110) hx hb hQ.1 hP 1 1 rfl rfl (rfl : (110 : Int32) = nI 110) (by omega) (by decide) dX11_draws_79 ?_
  refine w_topL (show ((vp_updL (vp_updL x1 82 ((x1 82) - (if (0 : Int64) ≤ (if ((x1 82) - ((200 : Int64) * (x1 81))) ≤ p1 then ((x1 82) - ((200 : Int64) * (x1 81))) else p1) then (if ((x1 82) - ((200 : Int64) * (x1 81))) ≤ p1 then ((x1 82) - ((200 : Int64) * (x1 81))) else p1) else (0 : Int64)))) 109 ((x1 109) + (if (0 : Int64) ≤ (if ((x1 82) - ((200 : Int64) * (x1 81))) ≤ p1 then ((x1 82) - ((200 : Int64) * (x1 81))) else p1) then (if ((x1 82) - ((200 : Int64) * (x1 81))) ≤ p1 then ((x1 82) - ((200 : Int64) * (x1 81))) else p1) else (0 : Int64)))) 110) = (x1 110) from (w_rd (by omega) (w_rd (by omega) rfl))) ?_
  refine lv_lload_n hx hb dX11_draws_80 rfl (lv_at hl 3 rfl) ?_
  refine lv_lload hx hb dX11_draws_81 (lv_at hl 0 rfl) ?_
  refine lv_lsub hx hb dX11_draws_83 ?_
  refine lv_ladd hx hb dX11_draws_84 ?_
  refine w_last (f := (vp_updL (vp_updL x1 82 ((x1 82) - (if (0 : Int64) ≤ (if ((x1 82) - ((200 : Int64) * (x1 81))) ≤ p1 then ((x1 82) - ((200 : Int64) * (x1 81))) else p1) then (if ((x1 82) - ((200 : Int64) * (x1 81))) ≤ p1 then ((x1 82) - ((200 : Int64) * (x1 81))) else p1) else (0 : Int64)))) 109 ((x1 109) + (if (0 : Int64) ≤ (if ((x1 82) - ((200 : Int64) * (x1 81))) ≤ p1 then ((x1 82) - ((200 : Int64) * (x1 81))) else p1) then (if ((x1 82) - ((200 : Int64) * (x1 81))) ≤ p1 then ((x1 82) - ((200 : Int64) * (x1 81))) else p1) else (0 : Int64))))) (j := 110) hx hb hQ.1 hP hD hS 1 1 rfl rfl (rfl : (110 : Int32) = nI 110) (by omega) (by decide) dX11_draws_85 (fun H locs hP hD hS => ?_)
  have hP : va_P D vwCl (wF [gN b0 b2 b1 x0, gR cL b2 (vp_updL (vp_updL (vp_updL x1 82 ((x1 82) - (if (0 : Int64) ≤ (if ((x1 82) - ((200 : Int64) * (x1 81))) ≤ p1 then ((x1 82) - ((200 : Int64) * (x1 81))) else p1) then (if ((x1 82) - ((200 : Int64) * (x1 81))) ≤ p1 then ((x1 82) - ((200 : Int64) * (x1 81))) else p1) else (0 : Int64)))) 109 ((x1 109) + (if (0 : Int64) ≤ (if ((x1 82) - ((200 : Int64) * (x1 81))) ≤ p1 then ((x1 82) - ((200 : Int64) * (x1 81))) else p1) then (if ((x1 82) - ((200 : Int64) * (x1 81))) ≤ p1 then ((x1 82) - ((200 : Int64) * (x1 81))) else p1) else (0 : Int64)))) 110 ((x1 110) + (p1 - (if (0 : Int64) ≤ (if ((x1 82) - ((200 : Int64) * (x1 81))) ≤ p1 then ((x1 82) - ((200 : Int64) * (x1 81))) else p1) then (if ((x1 82) - ((200 : Int64) * (x1 81))) ≤ p1 then ((x1 82) - ((200 : Int64) * (x1 81))) else p1) else (0 : Int64)))))]) H := hP
  have hD : va_D A (wF [gN b0 b2 b1 x0, gR cL b2 (vp_updL (vp_updL (vp_updL x1 82 ((x1 82) - (if (0 : Int64) ≤ (if ((x1 82) - ((200 : Int64) * (x1 81))) ≤ p1 then ((x1 82) - ((200 : Int64) * (x1 81))) else p1) then (if ((x1 82) - ((200 : Int64) * (x1 81))) ≤ p1 then ((x1 82) - ((200 : Int64) * (x1 81))) else p1) else (0 : Int64)))) 109 ((x1 109) + (if (0 : Int64) ≤ (if ((x1 82) - ((200 : Int64) * (x1 81))) ≤ p1 then ((x1 82) - ((200 : Int64) * (x1 81))) else p1) then (if ((x1 82) - ((200 : Int64) * (x1 81))) ≤ p1 then ((x1 82) - ((200 : Int64) * (x1 81))) else p1) else (0 : Int64)))) 110 ((x1 110) + (p1 - (if (0 : Int64) ≤ (if ((x1 82) - ((200 : Int64) * (x1 81))) ≤ p1 then ((x1 82) - ((200 : Int64) * (x1 81))) else p1) then (if ((x1 82) - ((200 : Int64) * (x1 81))) ≤ p1 then ((x1 82) - ((200 : Int64) * (x1 81))) else p1) else (0 : Int64)))))]) := hD
  exact W.vret hx hb hr (fun t ht hW => ⟨⟨(vp_updL (vp_updL (vp_updL x1 82 ((x1 82) - (if (0 : Int64) ≤ (if ((x1 82) - ((200 : Int64) * (x1 81))) ≤ p1 then ((x1 82) - ((200 : Int64) * (x1 81))) else p1) then (if ((x1 82) - ((200 : Int64) * (x1 81))) ≤ p1 then ((x1 82) - ((200 : Int64) * (x1 81))) else p1) else (0 : Int64)))) 109 ((x1 109) + (if (0 : Int64) ≤ (if ((x1 82) - ((200 : Int64) * (x1 81))) ≤ p1 then ((x1 82) - ((200 : Int64) * (x1 81))) else p1) then (if ((x1 82) - ((200 : Int64) * (x1 81))) ≤ p1 then ((x1 82) - ((200 : Int64) * (x1 81))) else p1) else (0 : Int64)))) 110 ((x1 110) + (p1 - (if (0 : Int64) ≤ (if ((x1 82) - ((200 : Int64) * (x1 81))) ≤ p1 then ((x1 82) - ((200 : Int64) * (x1 81))) else p1) then (if ((x1 82) - ((200 : Int64) * (x1 81))) ≤ p1 then ((x1 82) - ((200 : Int64) * (x1 81))) else p1) else (0 : Int64))))), rfl, ((rfl).symm), by rw [ht]; exact hP, hD⟩, hS.F ht⟩) hS.2.2 dX11_draws_86
theorem draws_o (x1 : Nat → Int64) (p1 : Int64) : mOe x1 (F11_draws x1 p1) := by
  unfold F11_draws
  repeat refine mOe.u ?_ (by omega) _
  exact mOe.r
def L11_settles_2 (x0 : MoN) (x1 : (Nat → Int64)) : Nat → Nat → (Nat → Int64) → Nat × (Nat → Int64)
  | 0, _, _ => default
  | fu + 1, i, f => (if 4 ≤ i then (i, f) else ((L11_settles_2 x0 x1 fu) (i + 1) (vp_updL (vp_updL f (82 + i) ((f (82 + i)) - (if (0 : Int64) ≤ (F11_div (((F11_warmth f i) - (200 : Int64)) * (F11_set1 f 13)) (10 : Int64)) then (F11_div (((F11_warmth f i) - (200 : Int64)) * (F11_set1 f 13)) (10 : Int64)) else (0 : Int64)))) 111 ((f 111) + (if (0 : Int64) ≤ (F11_div (((F11_warmth f i) - (200 : Int64)) * (F11_set1 f 13)) (10 : Int64)) then (F11_div (((F11_warmth f i) - (200 : Int64)) * (F11_set1 f 13)) (10 : Int64)) else (0 : Int64))))))
def B11_settles_78 (x0 : MoN) (x1 : (Nat → Int64)) (z3 : Nat × (Nat → Int64)) : (Nat → Int64) := (if (F11_warmth z3.2 3) ≤ (F11_warmth z3.2 2) then z3.2 else (vp_updL (vp_updL z3.2 85 (F11_div ((z3.2 84) + (z3.2 85)) (2 : Int64))) 84 (((z3.2 84) + (z3.2 85)) - (F11_div ((z3.2 84) + (z3.2 85)) (2 : Int64)))))
def B11_settles_78_1 (x0 : MoN) (x1 : (Nat → Int64)) (z3 : Nat × (Nat → Int64)) (z6 : (Nat → Int64)) : (Nat → Int64) := (if (F11_warmth z6 2) ≤ (F11_warmth z6 1) then z6 else (vp_updL (vp_updL z6 84 (F11_div ((z6 83) + (z6 84)) (2 : Int64))) 83 (((z6 83) + (z6 84)) - (F11_div ((z6 83) + (z6 84)) (2 : Int64)))))
def B11_settles_78_2 (x0 : MoN) (x1 : (Nat → Int64)) (z3 : Nat × (Nat → Int64)) (z6 : (Nat → Int64)) (z9 : (Nat → Int64)) : (Nat → Int64) := (if (F11_warmth z9 1) ≤ (F11_warmth z9 0) then z9 else (vp_updL (vp_updL z9 83 (F11_div ((z9 82) + (z9 83)) (2 : Int64))) 82 (((z9 82) + (z9 83)) - (F11_div ((z9 82) + (z9 83)) (2 : Int64)))))
def L11_settles_164 (x0 : MoN) (x1 : (Nat → Int64)) (z3 : Nat × (Nat → Int64)) (z6 : (Nat → Int64)) (z9 : (Nat → Int64)) (z12 : (Nat → Int64)) : Nat → Nat → (Nat → Int64) → Nat × (Nat → Int64)
  | 0, _, _ => default
  | fu + 1, i, f => (if 3 ≤ i then (i, f) else (if (F11_warmth f i) ≤ (F11_warmth f (i + 1)) then ((L11_settles_164 x0 x1 z3 z6 z9 z12 fu) (i + 1) f) else ((L11_settles_164 x0 x1 z3 z6 z9 z12 fu) (i + 1) (vp_updL (vp_updL f (82 + i) ((f (82 + i)) - (F11_div (((F11_warmth f i) - (F11_warmth f (i + 1))) * (F11_set1 f 14)) (10 : Int64)))) ((82 + i) + 1) ((f ((82 + i) + 1)) + (F11_div (((F11_warmth f i) - (F11_warmth f (i + 1))) * (F11_set1 f 14)) (10 : Int64)))))))
def K11_settles_5 (x0 : MoN) (x1 : (Nat → Int64)) (z3 : Nat × (Nat → Int64)) (z6 : (Nat → Int64)) (z9 : (Nat → Int64)) (z12 : (Nat → Int64)) (z16 : Nat × (Nat → Int64)) : (Nat → Int64) := z16.2
def K11_settles_4 (x0 : MoN) (x1 : (Nat → Int64)) (z3 : Nat × (Nat → Int64)) (z6 : (Nat → Int64)) (z9 : (Nat → Int64)) (z12 : (Nat → Int64)) : (Nat → Int64) := (K11_settles_5 x0 x1 z3 z6 z9 z12 (L11_settles_164 x0 x1 z3 z6 z9 z12 4 0 z12))
def K11_settles_3 (x0 : MoN) (x1 : (Nat → Int64)) (z3 : Nat × (Nat → Int64)) (z6 : (Nat → Int64)) (z9 : (Nat → Int64)) : (Nat → Int64) := (K11_settles_4 x0 x1 z3 z6 z9 (B11_settles_78_2 x0 x1 z3 z6 z9))
def K11_settles_2 (x0 : MoN) (x1 : (Nat → Int64)) (z3 : Nat × (Nat → Int64)) (z6 : (Nat → Int64)) : (Nat → Int64) := (K11_settles_3 x0 x1 z3 z6 (B11_settles_78_1 x0 x1 z3 z6))
def K11_settles_1 (x0 : MoN) (x1 : (Nat → Int64)) (z3 : Nat × (Nat → Int64)) : (Nat → Int64) := (K11_settles_2 x0 x1 z3 (B11_settles_78 x0 x1 z3))
def F11_settles (x0 : MoN) (x1 : (Nat → Int64)) : (Nat → Int64) := (K11_settles_1 x0 x1 (L11_settles_2 x0 x1 5 0 x1))
set_option maxHeartbeats 4000000 in
set_option maxRecDepth 100000 in
theorem m11_settles (l : Launch) (D : va_G) (cI cL cP : ClassId) (b0 : Nat) (b1 : Nat) (b2 : Nat) (x0 : MoN) (x1 : (Nat → Int64)) (h81 : ¬ x1 81 = 0) (sz : Nat) : Met l yX11_settles wsX11_settles ({ frames := 2, cells := 0, slots := 0, locals := 46 }) (va_Pc [.ref b0] (pM D cI cL cP sz (wF [gN b0 b2 b1 x0, gR cL b2 x1]))) (va_Qv (fun (w : (Nat → Int64)) => w = F11_settles x0 x1) (qW D (va_A (wF [gN b0 b2 b1 x0, gR cL b2 x1]) sz) (fun w : (Nat → Int64) => (wF [gN b0 b2 b1 x0, gR cL b2 w]))) (va_A (wF [gN b0 b2 b1 x0, gR cL b2 x1]) sz)) 0 0 (va_A (wF [gN b0 b2 b1 x0, gR cL b2 x1]) sz) := by
  refine Met.ofW (cc := cX11_settles) (maxL := 4) (ret := none) (by decide) rfl ?_
  intro p e s m args below meth c s₁ B hml hv
  obtain ⟨rfl, hsz, hP, hQ, hD0⟩ := hv
  have hx := B.exec
  have hb := B.bytes
  have hr := B.returns
  have hts := atoms_spec (ws := wsX11_settles) B.pre
  have hown : s.vm.findClass RX11 = some m.cls := findClass_of_methodNamed B.named
  have hlocks := B.notSynchronized
  subst hsz
  have hD := hD0.self (sz := s.heap.size)
  generalize hAe : va_A (wF [gN b0 b2 b1 x0, gR cL b2 x1]) s.heap.size = A at hD ⊢
  have hA : ∀ q : Nat, s.heap.size ≤ q → A q := fun q h => by rw [← hAe]; exact Or.inr h
  have hS : va_S A s.heap s.heap [] := va_S.rf
  have hP : va_P D vwCl (wF [gN b0 b2 b1 x0, gR cL b2 x1]) s.heap := hP
  have hl := lv_entry ([.ref b0]) (n := 4) (Nat.le_of_ble_eq_true rfl)
  rw [lg_entry_eq]
  generalize (lg_sl ([.ref b0]) ++ List.replicate (4 - (lg_sl ([.ref b0])).length) Slot.unset).toArray = ls at hl ⊢
  have hl : lv_has ls 4 [(0, .ref b0)] := hl
  have hinX11 : ∀ w ∈ wsX110, w ∈ wsX11_settles := fun _ h => List.mem_cons_of_mem _ (List.mem_append_right _ h)
  refine lv_iconst (v := (0 : Int32)) hx hb dX11_settles_0 (by decide) ?_
  refine lv_istore_n (lv' := [(1, .int (0 : Int32)), (0, .ref b0)]) hx hb dX11_settles_1 rfl hl (by decide) rfl (fun ls hl => ?_)
  have loop2 : ∀ (fu : Nat) (i : Nat) (f : Nat → Int64) (hi : i ≤ 4) (hf81 : ¬ f 81 = 0) (hm : 4 - i < fu) (kk : ∀ z : Nat × (Nat → Int64), z = L11_settles_2 x0 x1 fu i f → ((z.1) ≤ 4) → (¬ (z.2) 81 = 0) → ∀ (H : Heap) (locs : List Loc) (_ : va_P D vwCl (wF [gN b0 b2 b1 x0, gR cL b2 z.2]) H) (_ : va_D A (wF [gN b0 b2 b1 x0, gR cL b2 z.2])) (_ : va_S A s.heap H locs) (ls : Array Slot) (_ : lv_has ls 4 [(1, .int (nI z.1)), (0, .ref b0)]), W p l e (headSpec wsX11_settles ({ frames := 2, cells := 0, slots := 0, locals := 46 })).room s m #[.ref b0] below meth c H locs 0 0 (MQ below (va_Qv (fun (w : (Nat → Int64)) => w = F11_settles x0 x1) (qW D A (fun w : (Nat → Int64) => (wF [gN b0 b2 b1 x0, gR cL b2 w]))) A) #[.ref b0] s 0 0 A) (F0 m 72 ls [])), ∀ (H : Heap) (locs : List Loc) (_ : va_P D vwCl (wF [gN b0 b2 b1 x0, gR cL b2 f]) H) (_ : va_D A (wF [gN b0 b2 b1 x0, gR cL b2 f])) (_ : va_S A s.heap H locs) (ls : Array Slot) (_ : lv_has ls 4 [(1, .int (nI i)), (0, .ref b0)]), W p l e (headSpec wsX11_settles ({ frames := 2, cells := 0, slots := 0, locals := 46 })).room s m #[.ref b0] below meth c H locs 0 0 (MQ below (va_Qv (fun (w : (Nat → Int64)) => w = F11_settles x0 x1) (qW D A (fun w : (Nat → Int64) => (wF [gN b0 b2 b1 x0, gR cL b2 w]))) A) #[.ref b0] s 0 0 A) (F0 m 2 ls []) := by
    intro fu
    induction fu with
    | zero => intro i f hi hf81 hm; exact absurd hm (by omega)
    | succ fu ih =>
      intro i f hi hf81 hm kk H locs hP hD hS ls hl
      refine lv_iload_n hx hb dX11_settles_2 rfl (lv_at hl 0 rfl) ?_
      refine lv_iconst (v := (4 : Int32)) hx hb dX11_settles_3 (by decide) ?_
      refine lv_icmp_ge (tgt := 72) hx hb dX11_settles_4 (by decide) (fun c1 => ?_) (fun c1 => ?_)
      · have c1 : 4 ≤ i := (nI_leI (a := 4) (b := i) (by omega) (by omega)).mp c1
        exact kk (i, f) ((Eq.trans (if_pos c1) (rfl)).symm) hi hf81 H locs hP hD hS ls (lv_sub hl [0, 1] rfl)
      · have c1 : ¬ (4 ≤ i) := fun h9 => c1 ((nI_leI (a := 4) (b := i) (by omega) (by omega)).mpr h9)
        refine lv_aload_n hx hb dX11_settles_7 rfl (lv_at hl 1 rfl) ?_
        refine lv_iload_n hx hb dX11_settles_8 rfl (lv_at hl 0 rfl) ?_
        have hPc : va_P D vwCl (wF [gN b0 b2 b1 x0, gR cL b2 f]) H := hP.sub [0, 1] rfl
        refine c_Rl (va_runV (As := [.int (nI i)]) (rest := []) ⟨hx, hb, hml, hown, hts⟩ (m11_warmth l D cI cL cP b0 b1 b2 x0 f i (by omega) hf81 H) (cwV 1 hts gX11_settles_X11_warmth rfl rfl rfl (by decide +kernel) ⟨Nat.le_of_ble_eq_true rfl, Nat.le_of_ble_eq_true rfl⟩) (preR_V (q := (RX11, TX11, 10)) (q0 := 0) hQ hPc rfl rfl) rfl rfl hl.1 rfl (lv_room (Nat.le_of_ble_eq_true rfl)) dX11_settles_9 ⟨Nat.le_of_ble_eq_true rfl, Nat.le_of_ble_eq_true rfl⟩) hS (fun locs hS => ?_)
        refine lv_ldc2 (own := RX11) (index := 35) (v := (200 : Int64)) hx hb hown (hts (.constantLong RX11 35 (200)) (List.mem_of_getElem? (i := 1) rfl)) dX11_settles_12 ?_
        refine lv_lsub hx hb dX11_settles_15 ?_
        refine lv_aload_n hx hb dX11_settles_16 rfl (lv_at hl 1 rfl) ?_
        refine lv_bipush (v := (13 : Int32)) hx hb dX11_settles_17 (by decide) ?_
        have hPc : va_P D vwCl (wF [gN b0 b2 b1 x0, gR cL b2 f]) H := hP.sub [0, 1] rfl
        refine c_Rl (va_runV (As := [.int (nI 13)]) (rest := [.long ((F11_warmth f i) - (200 : Int64))]) ⟨hx, hb, hml, hown, hts⟩ (m11_set1 l D cI cL cP b0 b1 b2 x0 f 13 (by omega) H) (cwV 1 hts gX11_settles_X11_set1 rfl rfl rfl (by decide +kernel) ⟨Nat.le_of_ble_eq_true rfl, Nat.le_of_ble_eq_true rfl⟩) (preR_V (q := (RX11, TX11, 10)) (q0 := 0) hQ hPc rfl rfl) rfl rfl hl.1 rfl (lv_room (Nat.le_of_ble_eq_true rfl)) dX11_settles_19 ⟨Nat.le_of_ble_eq_true rfl, Nat.le_of_ble_eq_true rfl⟩) hS (fun locs hS => ?_)
        refine lv_lmul hx hb dX11_settles_22 ?_
        refine lv_ldc2 (own := RX11) (index := 23) (v := (10 : Int64)) hx hb hown (hts (.constantLong RX11 23 (10)) (List.mem_of_getElem? (i := 2) rfl)) dX11_settles_23 ?_
        have hPc : va_P D vwCl (wF []) H := hP.sub [] rfl
        refine c_Rl (va_runS (As := [.long (((F11_warmth f i) - (200 : Int64)) * (F11_set1 f 13)), .long (10 : Int64)]) (rest := []) ⟨hx, hb, hml, hown, hts⟩ (m11_div l D cI cL cP (((F11_warmth f i) - (200 : Int64)) * (F11_set1 f 13)) (10 : Int64) (by decide) H) (va_cwS 2 hts gX11_settles_X11_div rfl rfl rfl (by decide +kernel) ⟨Nat.le_of_ble_eq_true rfl, Nat.le_of_ble_eq_true rfl⟩) (preR_S hQ hPc) rfl rfl hl.1 rfl (lv_room (Nat.le_of_ble_eq_true rfl)) dX11_settles_26 ⟨Nat.le_of_ble_eq_true rfl, Nat.le_of_ble_eq_true rfl⟩) hS (fun locs hS => ?_)
        refine lv_lstore_n (lv' := [(2, .long (F11_div (((F11_warmth f i) - (200 : Int64)) * (F11_set1 f 13)) (10 : Int64))), (1, .int (nI i)), (0, .ref b0)]) hx hb dX11_settles_29 rfl hl (by decide) rfl (fun ls hl => ?_)
        refine lv_lload_n hx hb dX11_settles_30 rfl (lv_at hl 0 rfl) ?_
        refine lv_lconst (v := (0 : Int64)) hx hb dX11_settles_31 rfl ?_
        refine w_diaL (rest := []) (K := (0 : Int64) ≤ (F11_div (((F11_warmth f i) - (200 : Int64)) * (F11_set1 f 13)) (10 : Int64))) 41 (F11_div (((F11_warmth f i) - (200 : Int64)) * (F11_set1 f 13)) (10 : Int64)) (0 : Int64) (fun kt kf => ?_) ?_
        · refine w_lge (tgt := 40) hx hb dX11_settles_32 dX11_settles_33 (by decide) (fun c2 => ?_) (fun c2 => ?_)
          · have c2 : (0 : Int64) ≤ (F11_div (((F11_warmth f i) - (200 : Int64)) * (F11_set1 f 13)) (10 : Int64)) := c2
            refine lv_lload_n hx hb dX11_settles_40 rfl (lv_at hl 0 rfl) ?_
            exact kt c2
          · have c2 : ¬ ((0 : Int64) ≤ (F11_div (((F11_warmth f i) - (200 : Int64)) * (F11_set1 f 13)) (10 : Int64))) := c2
            refine lv_lconst (v := (0 : Int64)) hx hb dX11_settles_36 rfl ?_
            refine lv_goto (tgt := 41) hx hb dX11_settles_37 (by decide) ?_
            exact kf c2
        refine lv_lstore_n (lv' := [(2, .long (if (0 : Int64) ≤ (F11_div (((F11_warmth f i) - (200 : Int64)) * (F11_set1 f 13)) (10 : Int64)) then (F11_div (((F11_warmth f i) - (200 : Int64)) * (F11_set1 f 13)) (10 : Int64)) else (0 : Int64))), (1, .int (nI i)), (0, .ref b0)]) hx hb dX11_settles_41 rfl hl (by decide) rfl (fun ls hl => ?_)
        refine lv_aload_n hx hb dX11_settles_42 rfl (lv_at hl 2 rfl) ?_
        refine va_get (D := D) (ci := 11) (v := .ref b2) (C := RX11) (T := TX11) (N := 10) hx hb hts hinX11 hown hQ.1 hP 0 rfl rfl 0 (by decide) (hts (.fieldLink RX11 7 "HeatPumpPlantModel" "row" "[J") (List.mem_of_getElem? (i := 3) rfl)) (fun _ h9 => h9) rfl dX11_settles_43 ?_
        refine lv_bipush (v := (82 : Int32)) hx hb dX11_settles_46 (by decide) ?_
        refine lv_iload_n hx hb dX11_settles_48 rfl (lv_at hl 1 rfl) ?_
        refine lv_iadd hx hb dX11_settles_49 ?_
        refine lv_dup2_11 hx hb dX11_settles_50 rfl rfl ?_
        refine w_lald (f := f) (j := (82 + i)) hx hb hQ.1 hP 1 1 rfl rfl ((congr (congrArg HAdd.hAdd (show (82 : Int32) = nI 82 from (rfl : (82 : Int32) = nI 82))) (show (nI i) = nI i from rfl)).trans (nI_add 82 i)) (by omega) (by decide) dX11_settles_51 ?_
        refine lv_lload_n hx hb dX11_settles_52 rfl (lv_at hl 0 rfl) ?_
        refine lv_lsub hx hb dX11_settles_53 ?_
        refine w_last (f := f) (j := (82 + i)) hx hb hQ.1 hP hD hS 1 1 rfl rfl ((congr (congrArg HAdd.hAdd (show (82 : Int32) = nI 82 from (rfl : (82 : Int32) = nI 82))) (show (nI i) = nI i from rfl)).trans (nI_add 82 i)) (by omega) (by decide) dX11_settles_54 (fun H locs hP hD hS => ?_)
        have hP : va_P D vwCl (wF [gN b0 b2 b1 x0, gR cL b2 (vp_updL f (82 + i) ((f (82 + i)) - (if (0 : Int64) ≤ (F11_div (((F11_warmth f i) - (200 : Int64)) * (F11_set1 f 13)) (10 : Int64)) then (F11_div (((F11_warmth f i) - (200 : Int64)) * (F11_set1 f 13)) (10 : Int64)) else (0 : Int64))))]) H := hP
        have hD : va_D A (wF [gN b0 b2 b1 x0, gR cL b2 (vp_updL f (82 + i) ((f (82 + i)) - (if (0 : Int64) ≤ (F11_div (((F11_warmth f i) - (200 : Int64)) * (F11_set1 f 13)) (10 : Int64)) then (F11_div (((F11_warmth f i) - (200 : Int64)) * (F11_set1 f 13)) (10 : Int64)) else (0 : Int64))))]) := hD
        refine lv_aload_n hx hb dX11_settles_55 rfl (lv_at hl 2 rfl) ?_
        refine va_get (D := D) (ci := 11) (v := .ref b2) (C := RX11) (T := TX11) (N := 10) hx hb hts hinX11 hown hQ.1 hP 0 rfl rfl 0 (by decide) (hts (.fieldLink RX11 7 "HeatPumpPlantModel" "row" "[J") (List.mem_of_getElem? (i := 3) rfl)) (fun _ h9 => h9) rfl dX11_settles_56 ?_
        refine lv_bipush (v := (111 : Int32)) hx hb dX11_settles_59 (by decide) ?_
        refine lv_dup2_11 hx hb dX11_settles_61 rfl rfl ?_
        refine w_lald (f := (vp_updL f (82 + i) ((f (82 + i)) - (if (0 : Int64) ≤ (F11_div (((F11_warmth f i) - (200 : Int64)) * (F11_set1 f 13)) (10 : Int64)) then (F11_div (((F11_warmth f i) - (200 : Int64)) * (F11_set1 f 13)) (10 : Int64)) else (0 : Int64))))) (j := 111) hx hb hQ.1 hP 1 1 rfl rfl (rfl : (111 : Int32) = nI 111) (by omega) (by decide) dX11_settles_62 ?_
        refine w_topL (show ((vp_updL f (82 + i) ((f (82 + i)) - (if (0 : Int64) ≤ (F11_div (((F11_warmth f i) - (200 : Int64)) * (F11_set1 f 13)) (10 : Int64)) then (F11_div (((F11_warmth f i) - (200 : Int64)) * (F11_set1 f 13)) (10 : Int64)) else (0 : Int64)))) 111) = (f 111) from (w_rd (by omega) rfl)) ?_
        refine lv_lload_n hx hb dX11_settles_63 rfl (lv_at hl 0 rfl) ?_
        refine lv_ladd hx hb dX11_settles_64 ?_
        refine w_last (f := (vp_updL f (82 + i) ((f (82 + i)) - (if (0 : Int64) ≤ (F11_div (((F11_warmth f i) - (200 : Int64)) * (F11_set1 f 13)) (10 : Int64)) then (F11_div (((F11_warmth f i) - (200 : Int64)) * (F11_set1 f 13)) (10 : Int64)) else (0 : Int64))))) (j := 111) hx hb hQ.1 hP hD hS 1 1 rfl rfl (rfl : (111 : Int32) = nI 111) (by omega) (by decide) dX11_settles_65 (fun H locs hP hD hS => ?_)
        have hP : va_P D vwCl (wF [gN b0 b2 b1 x0, gR cL b2 (vp_updL (vp_updL f (82 + i) ((f (82 + i)) - (if (0 : Int64) ≤ (F11_div (((F11_warmth f i) - (200 : Int64)) * (F11_set1 f 13)) (10 : Int64)) then (F11_div (((F11_warmth f i) - (200 : Int64)) * (F11_set1 f 13)) (10 : Int64)) else (0 : Int64)))) 111 ((f 111) + (if (0 : Int64) ≤ (F11_div (((F11_warmth f i) - (200 : Int64)) * (F11_set1 f 13)) (10 : Int64)) then (F11_div (((F11_warmth f i) - (200 : Int64)) * (F11_set1 f 13)) (10 : Int64)) else (0 : Int64))))]) H := hP
        have hD : va_D A (wF [gN b0 b2 b1 x0, gR cL b2 (vp_updL (vp_updL f (82 + i) ((f (82 + i)) - (if (0 : Int64) ≤ (F11_div (((F11_warmth f i) - (200 : Int64)) * (F11_set1 f 13)) (10 : Int64)) then (F11_div (((F11_warmth f i) - (200 : Int64)) * (F11_set1 f 13)) (10 : Int64)) else (0 : Int64)))) 111 ((f 111) + (if (0 : Int64) ≤ (F11_div (((F11_warmth f i) - (200 : Int64)) * (F11_set1 f 13)) (10 : Int64)) then (F11_div (((F11_warmth f i) - (200 : Int64)) * (F11_set1 f 13)) (10 : Int64)) else (0 : Int64))))]) := hD
        refine lv_iinc (v := (nI (i + 1))) (lv' := [(1, .int (nI (i + 1))), (2, .long (if (0 : Int64) ≤ (F11_div (((F11_warmth f i) - (200 : Int64)) * (F11_set1 f 13)) (10 : Int64)) then (F11_div (((F11_warmth f i) - (200 : Int64)) * (F11_set1 f 13)) (10 : Int64)) else (0 : Int64))), (0, .ref b0)]) hx hb dX11_settles_66 hl (k := 1) rfl (nI_add i 1) (by decide) rfl (fun ls hl => ?_)
        refine lv_goto (tgt := 2) hx hb dX11_settles_69 (by decide) ?_
        have hP : va_P D vwCl (wF [gN b0 b2 b1 x0, gR cL b2 (vp_updL (vp_updL f (82 + i) ((f (82 + i)) - (if (0 : Int64) ≤ (F11_div (((F11_warmth f i) - (200 : Int64)) * (F11_set1 f 13)) (10 : Int64)) then (F11_div (((F11_warmth f i) - (200 : Int64)) * (F11_set1 f 13)) (10 : Int64)) else (0 : Int64)))) 111 ((f 111) + (if (0 : Int64) ≤ (F11_div (((F11_warmth f i) - (200 : Int64)) * (F11_set1 f 13)) (10 : Int64)) then (F11_div (((F11_warmth f i) - (200 : Int64)) * (F11_set1 f 13)) (10 : Int64)) else (0 : Int64))))]) H := hP
        have hD : va_D A (wF [gN b0 b2 b1 x0, gR cL b2 (vp_updL (vp_updL f (82 + i) ((f (82 + i)) - (if (0 : Int64) ≤ (F11_div (((F11_warmth f i) - (200 : Int64)) * (F11_set1 f 13)) (10 : Int64)) then (F11_div (((F11_warmth f i) - (200 : Int64)) * (F11_set1 f 13)) (10 : Int64)) else (0 : Int64)))) 111 ((f 111) + (if (0 : Int64) ≤ (F11_div (((F11_warmth f i) - (200 : Int64)) * (F11_set1 f 13)) (10 : Int64)) then (F11_div (((F11_warmth f i) - (200 : Int64)) * (F11_set1 f 13)) (10 : Int64)) else (0 : Int64))))]) := hD
        exact ih (i + 1) (vp_updL (vp_updL f (82 + i) ((f (82 + i)) - (if (0 : Int64) ≤ (F11_div (((F11_warmth f i) - (200 : Int64)) * (F11_set1 f 13)) (10 : Int64)) then (F11_div (((F11_warmth f i) - (200 : Int64)) * (F11_set1 f 13)) (10 : Int64)) else (0 : Int64)))) 111 ((f 111) + (if (0 : Int64) ≤ (F11_div (((F11_warmth f i) - (200 : Int64)) * (F11_set1 f 13)) (10 : Int64)) then (F11_div (((F11_warmth f i) - (200 : Int64)) * (F11_set1 f 13)) (10 : Int64)) else (0 : Int64)))) (by omega) ((w_ne (by omega) (w_ne (by omega) hf81))) (by omega) (fun z hz => kk z (hz.trans ((Eq.trans (if_neg c1) (rfl)).symm))) H locs hP hD hS ls (lv_sub hl [0, 2] rfl)
  have hP : va_P D vwCl (wF [gN b0 b2 b1 x0, gR cL b2 x1]) s.heap := hP
  have hD : va_D A (wF [gN b0 b2 b1 x0, gR cL b2 x1]) := hD
  refine loop2 5 0 x1 (by omega) (h81) (by omega) (fun z3 hz3 hi_z3 hf81_z3 H locs hP hD hS ls hl => ?_) s.heap [] hP hD hS ls (lv_sub hl [0, 1] rfl)
  refine lv_iconst (v := (2 : Int32)) hx hb dX11_settles_72 (by decide) ?_
  refine lv_istore_n (lv' := [(1, .int (2 : Int32)), (0, .ref b0)]) hx hb dX11_settles_73 rfl hl (by decide) rfl (fun ls hl => ?_)
  refine lv_iload_n hx hb dX11_settles_74 rfl (lv_at hl 0 rfl) ?_
  refine lv_if_lt (tgt := 162) hx hb dX11_settles_75 (by decide) (fun c4 => absurd c4 (by decide)) (fun _ => ?_)
  refine w_suf (P := ∀ z : (Nat → Int64), z = B11_settles_78 x0 x1 z3 → (¬ (z) 81 = 0) → ∀ (H : Heap) (locs : List Loc) (_ : va_P D vwCl (wF [gN b0 b2 b1 x0, gR cL b2 z]) H) (_ : va_D A (wF [gN b0 b2 b1 x0, gR cL b2 z])) (_ : va_S A s.heap H locs) (ls : Array Slot) (_ : lv_has ls 4 [(1, .int (2 : Int32)), (0, .ref b0)]), W p l e (headSpec wsX11_settles ({ frames := 2, cells := 0, slots := 0, locals := 46 })).room s m #[.ref b0] below meth c H locs 0 0 (MQ below (va_Qv (fun (w : (Nat → Int64)) => w = F11_settles x0 x1) (qW D A (fun w : (Nat → Int64) => (wF [gN b0 b2 b1 x0, gR cL b2 w]))) A) #[.ref b0] s 0 0 A) (F0 m 156 ls [])) (fun kk => ?_) ?_
  · refine lv_aload_n hx hb dX11_settles_78 rfl (lv_at hl 1 rfl) ?_
    refine lv_iload_n hx hb dX11_settles_79 rfl (lv_at hl 0 rfl) ?_
    have hPc : va_P D vwCl (wF [gN b0 b2 b1 x0, gR cL b2 z3.2]) H := hP.sub [0, 1] rfl
    refine c_Rl (va_runV (As := [.int (nI 2)]) (rest := []) ⟨hx, hb, hml, hown, hts⟩ (m11_warmth l D cI cL cP b0 b1 b2 x0 z3.2 2 (by omega) hf81_z3 H) (cwV 1 hts gX11_settles_X11_warmth rfl rfl rfl (by decide +kernel) ⟨Nat.le_of_ble_eq_true rfl, Nat.le_of_ble_eq_true rfl⟩) (preR_V (q := (RX11, TX11, 10)) (q0 := 0) hQ hPc rfl rfl) rfl rfl hl.1 rfl (lv_room (Nat.le_of_ble_eq_true rfl)) dX11_settles_80 ⟨Nat.le_of_ble_eq_true rfl, Nat.le_of_ble_eq_true rfl⟩) hS (fun locs hS => ?_)
    refine lv_aload_n hx hb dX11_settles_83 rfl (lv_at hl 1 rfl) ?_
    refine lv_iload_n hx hb dX11_settles_84 rfl (lv_at hl 0 rfl) ?_
    refine lv_iconst (v := (1 : Int32)) hx hb dX11_settles_85 (by decide) ?_
    refine lv_iadd hx hb dX11_settles_86 ?_
    have hPc : va_P D vwCl (wF [gN b0 b2 b1 x0, gR cL b2 z3.2]) H := hP.sub [0, 1] rfl
    refine c_Rl (va_runV (As := [.int (nI 3)]) (rest := [.long (F11_warmth z3.2 2)]) ⟨hx, hb, hml, hown, hts⟩ (m11_warmth l D cI cL cP b0 b1 b2 x0 z3.2 3 (by omega) hf81_z3 H) (cwV 1 hts gX11_settles_X11_warmth rfl rfl rfl (by decide +kernel) ⟨Nat.le_of_ble_eq_true rfl, Nat.le_of_ble_eq_true rfl⟩) (preR_V (q := (RX11, TX11, 10)) (q0 := 0) hQ hPc rfl rfl) rfl rfl hl.1 rfl (lv_room (Nat.le_of_ble_eq_true rfl)) dX11_settles_87 ⟨Nat.le_of_ble_eq_true rfl, Nat.le_of_ble_eq_true rfl⟩) hS (fun locs hS => ?_)
    refine w_lge (tgt := 156) hx hb dX11_settles_90 dX11_settles_91 (by decide) (fun c5 => ?_) (fun c5 => ?_)
    · have c5 : (F11_warmth z3.2 3) ≤ (F11_warmth z3.2 2) := c5
      exact kk z3.2 ((Eq.trans (if_pos c5) (rfl)).symm) hf81_z3 H locs hP hD hS ls (lv_sub hl [0, 1] rfl)
    · have c5 : ¬ ((F11_warmth z3.2 3) ≤ (F11_warmth z3.2 2)) := c5
      refine lv_aload_n hx hb dX11_settles_94 rfl (lv_at hl 1 rfl) ?_
      refine va_get (D := D) (ci := 11) (v := .ref b2) (C := RX11) (T := TX11) (N := 10) hx hb hts hinX11 hown hQ.1 hP 0 rfl rfl 0 (by decide) (hts (.fieldLink RX11 7 "HeatPumpPlantModel" "row" "[J") (List.mem_of_getElem? (i := 3) rfl)) (fun _ h9 => h9) rfl dX11_settles_95 ?_
      refine lv_bipush (v := (82 : Int32)) hx hb dX11_settles_98 (by decide) ?_
      refine lv_iload_n hx hb dX11_settles_100 rfl (lv_at hl 0 rfl) ?_
      refine lv_iadd hx hb dX11_settles_101 ?_
      refine w_lald (f := z3.2) (j := 84) hx hb hQ.1 hP 1 1 rfl rfl (by decide) (by omega) (by decide) dX11_settles_102 ?_
      refine lv_aload_n hx hb dX11_settles_103 rfl (lv_at hl 1 rfl) ?_
      refine va_get (D := D) (ci := 11) (v := .ref b2) (C := RX11) (T := TX11) (N := 10) hx hb hts hinX11 hown hQ.1 hP 0 rfl rfl 0 (by decide) (hts (.fieldLink RX11 7 "HeatPumpPlantModel" "row" "[J") (List.mem_of_getElem? (i := 3) rfl)) (fun _ h9 => h9) rfl dX11_settles_104 ?_
      refine lv_bipush (v := (82 : Int32)) hx hb dX11_settles_107 (by decide) ?_
      refine lv_iload_n hx hb dX11_settles_109 rfl (lv_at hl 0 rfl) ?_
      refine lv_iadd hx hb dX11_settles_110 ?_
      refine lv_iconst (v := (1 : Int32)) hx hb dX11_settles_111 (by decide) ?_
      refine lv_iadd hx hb dX11_settles_112 ?_
      refine w_lald (f := z3.2) (j := 85) hx hb hQ.1 hP 1 1 rfl rfl (by decide) (by omega) (by decide) dX11_settles_113 ?_
      refine lv_ladd hx hb dX11_settles_114 ?_
      refine lv_lstore_n (lv' := [(2, .long ((z3.2 84) + (z3.2 85))), (1, .int (2 : Int32)), (0, .ref b0)]) hx hb dX11_settles_115 rfl hl (by decide) rfl (fun ls hl => ?_)
      refine lv_aload_n hx hb dX11_settles_116 rfl (lv_at hl 2 rfl) ?_
      refine va_get (D := D) (ci := 11) (v := .ref b2) (C := RX11) (T := TX11) (N := 10) hx hb hts hinX11 hown hQ.1 hP 0 rfl rfl 0 (by decide) (hts (.fieldLink RX11 7 "HeatPumpPlantModel" "row" "[J") (List.mem_of_getElem? (i := 3) rfl)) (fun _ h9 => h9) rfl dX11_settles_117 ?_
      refine lv_bipush (v := (82 : Int32)) hx hb dX11_settles_120 (by decide) ?_
      refine lv_iload_n hx hb dX11_settles_122 rfl (lv_at hl 1 rfl) ?_
      refine lv_iadd hx hb dX11_settles_123 ?_
      refine lv_iconst (v := (1 : Int32)) hx hb dX11_settles_124 (by decide) ?_
      refine lv_iadd hx hb dX11_settles_125 ?_
      refine lv_lload_n hx hb dX11_settles_126 rfl (lv_at hl 0 rfl) ?_
      refine lv_ldc2 (own := RX11) (index := 29) (v := (2 : Int64)) hx hb hown (hts (.constantLong RX11 29 (2)) (List.mem_of_getElem? (i := 4) rfl)) dX11_settles_127 ?_
      have hPc : va_P D vwCl (wF []) H := hP.sub [] rfl
      refine c_Rl (va_runS (As := [.long ((z3.2 84) + (z3.2 85)), .long (2 : Int64)]) (rest := [.int (((82 : Int32) + (2 : Int32)) + (1 : Int32)), .ref b2]) ⟨hx, hb, hml, hown, hts⟩ (m11_div l D cI cL cP ((z3.2 84) + (z3.2 85)) (2 : Int64) (by decide) H) (va_cwS 2 hts gX11_settles_X11_div rfl rfl rfl (by decide +kernel) ⟨Nat.le_of_ble_eq_true rfl, Nat.le_of_ble_eq_true rfl⟩) (preR_S hQ hPc) rfl rfl hl.1 rfl (lv_room (Nat.le_of_ble_eq_true rfl)) dX11_settles_130 ⟨Nat.le_of_ble_eq_true rfl, Nat.le_of_ble_eq_true rfl⟩) hS (fun locs hS => ?_)
      refine w_last (f := z3.2) (j := 85) hx hb hQ.1 hP hD hS 1 1 rfl rfl (by decide) (by omega) (by decide) dX11_settles_133 (fun H locs hP hD hS => ?_)
      have hP : va_P D vwCl (wF [gN b0 b2 b1 x0, gR cL b2 (vp_updL z3.2 85 (F11_div ((z3.2 84) + (z3.2 85)) (2 : Int64)))]) H := hP
      have hD : va_D A (wF [gN b0 b2 b1 x0, gR cL b2 (vp_updL z3.2 85 (F11_div ((z3.2 84) + (z3.2 85)) (2 : Int64)))]) := hD
      refine lv_aload_n hx hb dX11_settles_134 rfl (lv_at hl 2 rfl) ?_
      refine va_get (D := D) (ci := 11) (v := .ref b2) (C := RX11) (T := TX11) (N := 10) hx hb hts hinX11 hown hQ.1 hP 0 rfl rfl 0 (by decide) (hts (.fieldLink RX11 7 "HeatPumpPlantModel" "row" "[J") (List.mem_of_getElem? (i := 3) rfl)) (fun _ h9 => h9) rfl dX11_settles_135 ?_
      refine lv_bipush (v := (82 : Int32)) hx hb dX11_settles_138 (by decide) ?_
      refine lv_iload_n hx hb dX11_settles_140 rfl (lv_at hl 1 rfl) ?_
      refine lv_iadd hx hb dX11_settles_141 ?_
      refine lv_lload_n hx hb dX11_settles_142 rfl (lv_at hl 0 rfl) ?_
      refine lv_aload_n hx hb dX11_settles_143 rfl (lv_at hl 2 rfl) ?_
      refine va_get (D := D) (ci := 11) (v := .ref b2) (C := RX11) (T := TX11) (N := 10) hx hb hts hinX11 hown hQ.1 hP 0 rfl rfl 0 (by decide) (hts (.fieldLink RX11 7 "HeatPumpPlantModel" "row" "[J") (List.mem_of_getElem? (i := 3) rfl)) (fun _ h9 => h9) rfl dX11_settles_144 ?_
      refine lv_bipush (v := (82 : Int32)) hx hb dX11_settles_147 (by decide) ?_
      refine lv_iload_n hx hb dX11_settles_149 rfl (lv_at hl 1 rfl) ?_
      refine lv_iadd hx hb dX11_settles_150 ?_
      refine lv_iconst (v := (1 : Int32)) hx hb dX11_settles_151 (by decide) ?_
      refine lv_iadd hx hb dX11_settles_152 ?_
      refine w_lald (f := (vp_updL z3.2 85 (F11_div ((z3.2 84) + (z3.2 85)) (2 : Int64)))) (j := 85) hx hb hQ.1 hP 1 1 rfl rfl (by decide) (by omega) (by decide) dX11_settles_153 ?_
      refine w_topL (show ((vp_updL z3.2 85 (F11_div ((z3.2 84) + (z3.2 85)) (2 : Int64))) 85) = (F11_div ((z3.2 84) + (z3.2 85)) (2 : Int64)) from (w_rds _ _ _)) ?_
      refine lv_lsub hx hb dX11_settles_154 ?_
      refine w_last (f := (vp_updL z3.2 85 (F11_div ((z3.2 84) + (z3.2 85)) (2 : Int64)))) (j := 84) hx hb hQ.1 hP hD hS 1 1 rfl rfl (by decide) (by omega) (by decide) dX11_settles_155 (fun H locs hP hD hS => ?_)
      have hP : va_P D vwCl (wF [gN b0 b2 b1 x0, gR cL b2 (vp_updL (vp_updL z3.2 85 (F11_div ((z3.2 84) + (z3.2 85)) (2 : Int64))) 84 (((z3.2 84) + (z3.2 85)) - (F11_div ((z3.2 84) + (z3.2 85)) (2 : Int64))))]) H := hP
      have hD : va_D A (wF [gN b0 b2 b1 x0, gR cL b2 (vp_updL (vp_updL z3.2 85 (F11_div ((z3.2 84) + (z3.2 85)) (2 : Int64))) 84 (((z3.2 84) + (z3.2 85)) - (F11_div ((z3.2 84) + (z3.2 85)) (2 : Int64))))]) := hD
      exact kk (vp_updL (vp_updL z3.2 85 (F11_div ((z3.2 84) + (z3.2 85)) (2 : Int64))) 84 (((z3.2 84) + (z3.2 85)) - (F11_div ((z3.2 84) + (z3.2 85)) (2 : Int64)))) ((Eq.trans (if_neg c5) (rfl)).symm) (w_ne (by omega) (w_ne (by omega) hf81_z3)) H locs hP hD hS ls (lv_sub hl [1, 2] rfl)
  intro z6 hz6 hf81_z6 H locs hP hD hS ls hl
  refine lv_iinc (v := (1 : Int32)) (lv' := [(1, .int (1 : Int32)), (0, .ref b0)]) hx hb dX11_settles_156 hl (k := 0) rfl (by decide) (by decide) rfl (fun ls hl => ?_)
  refine lv_goto (tgt := 74) hx hb dX11_settles_159 (by decide) ?_
  refine lv_iload_n hx hb dX11_settles_74 rfl (lv_at hl 0 rfl) ?_
  refine lv_if_lt (tgt := 162) hx hb dX11_settles_75 (by decide) (fun c7 => absurd c7 (by decide)) (fun _ => ?_)
  refine w_suf (P := ∀ z : (Nat → Int64), z = B11_settles_78_1 x0 x1 z3 z6 → (¬ (z) 81 = 0) → ∀ (H : Heap) (locs : List Loc) (_ : va_P D vwCl (wF [gN b0 b2 b1 x0, gR cL b2 z]) H) (_ : va_D A (wF [gN b0 b2 b1 x0, gR cL b2 z])) (_ : va_S A s.heap H locs) (ls : Array Slot) (_ : lv_has ls 4 [(1, .int (1 : Int32)), (0, .ref b0)]), W p l e (headSpec wsX11_settles ({ frames := 2, cells := 0, slots := 0, locals := 46 })).room s m #[.ref b0] below meth c H locs 0 0 (MQ below (va_Qv (fun (w : (Nat → Int64)) => w = F11_settles x0 x1) (qW D A (fun w : (Nat → Int64) => (wF [gN b0 b2 b1 x0, gR cL b2 w]))) A) #[.ref b0] s 0 0 A) (F0 m 156 ls [])) (fun kk => ?_) ?_
  · refine lv_aload_n hx hb dX11_settles_78 rfl (lv_at hl 1 rfl) ?_
    refine lv_iload_n hx hb dX11_settles_79 rfl (lv_at hl 0 rfl) ?_
    have hPc : va_P D vwCl (wF [gN b0 b2 b1 x0, gR cL b2 z6]) H := hP.sub [0, 1] rfl
    refine c_Rl (va_runV (As := [.int (nI 1)]) (rest := []) ⟨hx, hb, hml, hown, hts⟩ (m11_warmth l D cI cL cP b0 b1 b2 x0 z6 1 (by omega) hf81_z6 H) (cwV 1 hts gX11_settles_X11_warmth rfl rfl rfl (by decide +kernel) ⟨Nat.le_of_ble_eq_true rfl, Nat.le_of_ble_eq_true rfl⟩) (preR_V (q := (RX11, TX11, 10)) (q0 := 0) hQ hPc rfl rfl) rfl rfl hl.1 rfl (lv_room (Nat.le_of_ble_eq_true rfl)) dX11_settles_80 ⟨Nat.le_of_ble_eq_true rfl, Nat.le_of_ble_eq_true rfl⟩) hS (fun locs hS => ?_)
    refine lv_aload_n hx hb dX11_settles_83 rfl (lv_at hl 1 rfl) ?_
    refine lv_iload_n hx hb dX11_settles_84 rfl (lv_at hl 0 rfl) ?_
    refine lv_iconst (v := (1 : Int32)) hx hb dX11_settles_85 (by decide) ?_
    refine lv_iadd hx hb dX11_settles_86 ?_
    have hPc : va_P D vwCl (wF [gN b0 b2 b1 x0, gR cL b2 z6]) H := hP.sub [0, 1] rfl
    refine c_Rl (va_runV (As := [.int (nI 2)]) (rest := [.long (F11_warmth z6 1)]) ⟨hx, hb, hml, hown, hts⟩ (m11_warmth l D cI cL cP b0 b1 b2 x0 z6 2 (by omega) hf81_z6 H) (cwV 1 hts gX11_settles_X11_warmth rfl rfl rfl (by decide +kernel) ⟨Nat.le_of_ble_eq_true rfl, Nat.le_of_ble_eq_true rfl⟩) (preR_V (q := (RX11, TX11, 10)) (q0 := 0) hQ hPc rfl rfl) rfl rfl hl.1 rfl (lv_room (Nat.le_of_ble_eq_true rfl)) dX11_settles_87 ⟨Nat.le_of_ble_eq_true rfl, Nat.le_of_ble_eq_true rfl⟩) hS (fun locs hS => ?_)
    refine w_lge (tgt := 156) hx hb dX11_settles_90 dX11_settles_91 (by decide) (fun c8 => ?_) (fun c8 => ?_)
    · have c8 : (F11_warmth z6 2) ≤ (F11_warmth z6 1) := c8
      exact kk z6 ((Eq.trans (if_pos c8) (rfl)).symm) hf81_z6 H locs hP hD hS ls (lv_sub hl [0, 1] rfl)
    · have c8 : ¬ ((F11_warmth z6 2) ≤ (F11_warmth z6 1)) := c8
      refine lv_aload_n hx hb dX11_settles_94 rfl (lv_at hl 1 rfl) ?_
      refine va_get (D := D) (ci := 11) (v := .ref b2) (C := RX11) (T := TX11) (N := 10) hx hb hts hinX11 hown hQ.1 hP 0 rfl rfl 0 (by decide) (hts (.fieldLink RX11 7 "HeatPumpPlantModel" "row" "[J") (List.mem_of_getElem? (i := 3) rfl)) (fun _ h9 => h9) rfl dX11_settles_95 ?_
      refine lv_bipush (v := (82 : Int32)) hx hb dX11_settles_98 (by decide) ?_
      refine lv_iload_n hx hb dX11_settles_100 rfl (lv_at hl 0 rfl) ?_
      refine lv_iadd hx hb dX11_settles_101 ?_
      refine w_lald (f := z6) (j := 83) hx hb hQ.1 hP 1 1 rfl rfl (by decide) (by omega) (by decide) dX11_settles_102 ?_
      refine lv_aload_n hx hb dX11_settles_103 rfl (lv_at hl 1 rfl) ?_
      refine va_get (D := D) (ci := 11) (v := .ref b2) (C := RX11) (T := TX11) (N := 10) hx hb hts hinX11 hown hQ.1 hP 0 rfl rfl 0 (by decide) (hts (.fieldLink RX11 7 "HeatPumpPlantModel" "row" "[J") (List.mem_of_getElem? (i := 3) rfl)) (fun _ h9 => h9) rfl dX11_settles_104 ?_
      refine lv_bipush (v := (82 : Int32)) hx hb dX11_settles_107 (by decide) ?_
      refine lv_iload_n hx hb dX11_settles_109 rfl (lv_at hl 0 rfl) ?_
      refine lv_iadd hx hb dX11_settles_110 ?_
      refine lv_iconst (v := (1 : Int32)) hx hb dX11_settles_111 (by decide) ?_
      refine lv_iadd hx hb dX11_settles_112 ?_
      refine w_lald (f := z6) (j := 84) hx hb hQ.1 hP 1 1 rfl rfl (by decide) (by omega) (by decide) dX11_settles_113 ?_
      refine lv_ladd hx hb dX11_settles_114 ?_
      refine lv_lstore_n (lv' := [(2, .long ((z6 83) + (z6 84))), (1, .int (1 : Int32)), (0, .ref b0)]) hx hb dX11_settles_115 rfl hl (by decide) rfl (fun ls hl => ?_)
      refine lv_aload_n hx hb dX11_settles_116 rfl (lv_at hl 2 rfl) ?_
      refine va_get (D := D) (ci := 11) (v := .ref b2) (C := RX11) (T := TX11) (N := 10) hx hb hts hinX11 hown hQ.1 hP 0 rfl rfl 0 (by decide) (hts (.fieldLink RX11 7 "HeatPumpPlantModel" "row" "[J") (List.mem_of_getElem? (i := 3) rfl)) (fun _ h9 => h9) rfl dX11_settles_117 ?_
      refine lv_bipush (v := (82 : Int32)) hx hb dX11_settles_120 (by decide) ?_
      refine lv_iload_n hx hb dX11_settles_122 rfl (lv_at hl 1 rfl) ?_
      refine lv_iadd hx hb dX11_settles_123 ?_
      refine lv_iconst (v := (1 : Int32)) hx hb dX11_settles_124 (by decide) ?_
      refine lv_iadd hx hb dX11_settles_125 ?_
      refine lv_lload_n hx hb dX11_settles_126 rfl (lv_at hl 0 rfl) ?_
      refine lv_ldc2 (own := RX11) (index := 29) (v := (2 : Int64)) hx hb hown (hts (.constantLong RX11 29 (2)) (List.mem_of_getElem? (i := 4) rfl)) dX11_settles_127 ?_
      have hPc : va_P D vwCl (wF []) H := hP.sub [] rfl
      refine c_Rl (va_runS (As := [.long ((z6 83) + (z6 84)), .long (2 : Int64)]) (rest := [.int (((82 : Int32) + (1 : Int32)) + (1 : Int32)), .ref b2]) ⟨hx, hb, hml, hown, hts⟩ (m11_div l D cI cL cP ((z6 83) + (z6 84)) (2 : Int64) (by decide) H) (va_cwS 2 hts gX11_settles_X11_div rfl rfl rfl (by decide +kernel) ⟨Nat.le_of_ble_eq_true rfl, Nat.le_of_ble_eq_true rfl⟩) (preR_S hQ hPc) rfl rfl hl.1 rfl (lv_room (Nat.le_of_ble_eq_true rfl)) dX11_settles_130 ⟨Nat.le_of_ble_eq_true rfl, Nat.le_of_ble_eq_true rfl⟩) hS (fun locs hS => ?_)
      refine w_last (f := z6) (j := 84) hx hb hQ.1 hP hD hS 1 1 rfl rfl (by decide) (by omega) (by decide) dX11_settles_133 (fun H locs hP hD hS => ?_)
      have hP : va_P D vwCl (wF [gN b0 b2 b1 x0, gR cL b2 (vp_updL z6 84 (F11_div ((z6 83) + (z6 84)) (2 : Int64)))]) H := hP
      have hD : va_D A (wF [gN b0 b2 b1 x0, gR cL b2 (vp_updL z6 84 (F11_div ((z6 83) + (z6 84)) (2 : Int64)))]) := hD
      refine lv_aload_n hx hb dX11_settles_134 rfl (lv_at hl 2 rfl) ?_
      refine va_get (D := D) (ci := 11) (v := .ref b2) (C := RX11) (T := TX11) (N := 10) hx hb hts hinX11 hown hQ.1 hP 0 rfl rfl 0 (by decide) (hts (.fieldLink RX11 7 "HeatPumpPlantModel" "row" "[J") (List.mem_of_getElem? (i := 3) rfl)) (fun _ h9 => h9) rfl dX11_settles_135 ?_
      refine lv_bipush (v := (82 : Int32)) hx hb dX11_settles_138 (by decide) ?_
      refine lv_iload_n hx hb dX11_settles_140 rfl (lv_at hl 1 rfl) ?_
      refine lv_iadd hx hb dX11_settles_141 ?_
      refine lv_lload_n hx hb dX11_settles_142 rfl (lv_at hl 0 rfl) ?_
      refine lv_aload_n hx hb dX11_settles_143 rfl (lv_at hl 2 rfl) ?_
      refine va_get (D := D) (ci := 11) (v := .ref b2) (C := RX11) (T := TX11) (N := 10) hx hb hts hinX11 hown hQ.1 hP 0 rfl rfl 0 (by decide) (hts (.fieldLink RX11 7 "HeatPumpPlantModel" "row" "[J") (List.mem_of_getElem? (i := 3) rfl)) (fun _ h9 => h9) rfl dX11_settles_144 ?_
      refine lv_bipush (v := (82 : Int32)) hx hb dX11_settles_147 (by decide) ?_
      refine lv_iload_n hx hb dX11_settles_149 rfl (lv_at hl 1 rfl) ?_
      refine lv_iadd hx hb dX11_settles_150 ?_
      refine lv_iconst (v := (1 : Int32)) hx hb dX11_settles_151 (by decide) ?_
      refine lv_iadd hx hb dX11_settles_152 ?_
      refine w_lald (f := (vp_updL z6 84 (F11_div ((z6 83) + (z6 84)) (2 : Int64)))) (j := 84) hx hb hQ.1 hP 1 1 rfl rfl (by decide) (by omega) (by decide) dX11_settles_153 ?_
      refine w_topL (show ((vp_updL z6 84 (F11_div ((z6 83) + (z6 84)) (2 : Int64))) 84) = (F11_div ((z6 83) + (z6 84)) (2 : Int64)) from (w_rds _ _ _)) ?_
      refine lv_lsub hx hb dX11_settles_154 ?_
      refine w_last (f := (vp_updL z6 84 (F11_div ((z6 83) + (z6 84)) (2 : Int64)))) (j := 83) hx hb hQ.1 hP hD hS 1 1 rfl rfl (by decide) (by omega) (by decide) dX11_settles_155 (fun H locs hP hD hS => ?_)
      have hP : va_P D vwCl (wF [gN b0 b2 b1 x0, gR cL b2 (vp_updL (vp_updL z6 84 (F11_div ((z6 83) + (z6 84)) (2 : Int64))) 83 (((z6 83) + (z6 84)) - (F11_div ((z6 83) + (z6 84)) (2 : Int64))))]) H := hP
      have hD : va_D A (wF [gN b0 b2 b1 x0, gR cL b2 (vp_updL (vp_updL z6 84 (F11_div ((z6 83) + (z6 84)) (2 : Int64))) 83 (((z6 83) + (z6 84)) - (F11_div ((z6 83) + (z6 84)) (2 : Int64))))]) := hD
      exact kk (vp_updL (vp_updL z6 84 (F11_div ((z6 83) + (z6 84)) (2 : Int64))) 83 (((z6 83) + (z6 84)) - (F11_div ((z6 83) + (z6 84)) (2 : Int64)))) ((Eq.trans (if_neg c8) (rfl)).symm) (w_ne (by omega) (w_ne (by omega) hf81_z6)) H locs hP hD hS ls (lv_sub hl [1, 2] rfl)
  intro z9 hz9 hf81_z9 H locs hP hD hS ls hl
  refine lv_iinc (v := (0 : Int32)) (lv' := [(1, .int (0 : Int32)), (0, .ref b0)]) hx hb dX11_settles_156 hl (k := 0) rfl (by decide) (by decide) rfl (fun ls hl => ?_)
  refine lv_goto (tgt := 74) hx hb dX11_settles_159 (by decide) ?_
  refine lv_iload_n hx hb dX11_settles_74 rfl (lv_at hl 0 rfl) ?_
  refine lv_if_lt (tgt := 162) hx hb dX11_settles_75 (by decide) (fun c10 => absurd c10 (by decide)) (fun _ => ?_)
  refine w_suf (P := ∀ z : (Nat → Int64), z = B11_settles_78_2 x0 x1 z3 z6 z9 → (¬ (z) 81 = 0) → ∀ (H : Heap) (locs : List Loc) (_ : va_P D vwCl (wF [gN b0 b2 b1 x0, gR cL b2 z]) H) (_ : va_D A (wF [gN b0 b2 b1 x0, gR cL b2 z])) (_ : va_S A s.heap H locs) (ls : Array Slot) (_ : lv_has ls 4 [(1, .int (0 : Int32)), (0, .ref b0)]), W p l e (headSpec wsX11_settles ({ frames := 2, cells := 0, slots := 0, locals := 46 })).room s m #[.ref b0] below meth c H locs 0 0 (MQ below (va_Qv (fun (w : (Nat → Int64)) => w = F11_settles x0 x1) (qW D A (fun w : (Nat → Int64) => (wF [gN b0 b2 b1 x0, gR cL b2 w]))) A) #[.ref b0] s 0 0 A) (F0 m 156 ls [])) (fun kk => ?_) ?_
  · refine lv_aload_n hx hb dX11_settles_78 rfl (lv_at hl 1 rfl) ?_
    refine lv_iload_n hx hb dX11_settles_79 rfl (lv_at hl 0 rfl) ?_
    have hPc : va_P D vwCl (wF [gN b0 b2 b1 x0, gR cL b2 z9]) H := hP.sub [0, 1] rfl
    refine c_Rl (va_runV (As := [.int (nI 0)]) (rest := []) ⟨hx, hb, hml, hown, hts⟩ (m11_warmth l D cI cL cP b0 b1 b2 x0 z9 0 (by omega) hf81_z9 H) (cwV 1 hts gX11_settles_X11_warmth rfl rfl rfl (by decide +kernel) ⟨Nat.le_of_ble_eq_true rfl, Nat.le_of_ble_eq_true rfl⟩) (preR_V (q := (RX11, TX11, 10)) (q0 := 0) hQ hPc rfl rfl) rfl rfl hl.1 rfl (lv_room (Nat.le_of_ble_eq_true rfl)) dX11_settles_80 ⟨Nat.le_of_ble_eq_true rfl, Nat.le_of_ble_eq_true rfl⟩) hS (fun locs hS => ?_)
    refine lv_aload_n hx hb dX11_settles_83 rfl (lv_at hl 1 rfl) ?_
    refine lv_iload_n hx hb dX11_settles_84 rfl (lv_at hl 0 rfl) ?_
    refine lv_iconst (v := (1 : Int32)) hx hb dX11_settles_85 (by decide) ?_
    refine lv_iadd hx hb dX11_settles_86 ?_
    have hPc : va_P D vwCl (wF [gN b0 b2 b1 x0, gR cL b2 z9]) H := hP.sub [0, 1] rfl
    refine c_Rl (va_runV (As := [.int (nI 1)]) (rest := [.long (F11_warmth z9 0)]) ⟨hx, hb, hml, hown, hts⟩ (m11_warmth l D cI cL cP b0 b1 b2 x0 z9 1 (by omega) hf81_z9 H) (cwV 1 hts gX11_settles_X11_warmth rfl rfl rfl (by decide +kernel) ⟨Nat.le_of_ble_eq_true rfl, Nat.le_of_ble_eq_true rfl⟩) (preR_V (q := (RX11, TX11, 10)) (q0 := 0) hQ hPc rfl rfl) rfl rfl hl.1 rfl (lv_room (Nat.le_of_ble_eq_true rfl)) dX11_settles_87 ⟨Nat.le_of_ble_eq_true rfl, Nat.le_of_ble_eq_true rfl⟩) hS (fun locs hS => ?_)
    refine w_lge (tgt := 156) hx hb dX11_settles_90 dX11_settles_91 (by decide) (fun c11 => ?_) (fun c11 => ?_)
    · have c11 : (F11_warmth z9 1) ≤ (F11_warmth z9 0) := c11
      exact kk z9 ((Eq.trans (if_pos c11) (rfl)).symm) hf81_z9 H locs hP hD hS ls (lv_sub hl [0, 1] rfl)
    · have c11 : ¬ ((F11_warmth z9 1) ≤ (F11_warmth z9 0)) := c11
      refine lv_aload_n hx hb dX11_settles_94 rfl (lv_at hl 1 rfl) ?_
      refine va_get (D := D) (ci := 11) (v := .ref b2) (C := RX11) (T := TX11) (N := 10) hx hb hts hinX11 hown hQ.1 hP 0 rfl rfl 0 (by decide) (hts (.fieldLink RX11 7 "HeatPumpPlantModel" "row" "[J") (List.mem_of_getElem? (i := 3) rfl)) (fun _ h9 => h9) rfl dX11_settles_95 ?_
      refine lv_bipush (v := (82 : Int32)) hx hb dX11_settles_98 (by decide) ?_
      refine lv_iload_n hx hb dX11_settles_100 rfl (lv_at hl 0 rfl) ?_
      refine lv_iadd hx hb dX11_settles_101 ?_
      refine w_lald (f := z9) (j := 82) hx hb hQ.1 hP 1 1 rfl rfl (by decide) (by omega) (by decide) dX11_settles_102 ?_
      refine lv_aload_n hx hb dX11_settles_103 rfl (lv_at hl 1 rfl) ?_
      refine va_get (D := D) (ci := 11) (v := .ref b2) (C := RX11) (T := TX11) (N := 10) hx hb hts hinX11 hown hQ.1 hP 0 rfl rfl 0 (by decide) (hts (.fieldLink RX11 7 "HeatPumpPlantModel" "row" "[J") (List.mem_of_getElem? (i := 3) rfl)) (fun _ h9 => h9) rfl dX11_settles_104 ?_
      refine lv_bipush (v := (82 : Int32)) hx hb dX11_settles_107 (by decide) ?_
      refine lv_iload_n hx hb dX11_settles_109 rfl (lv_at hl 0 rfl) ?_
      refine lv_iadd hx hb dX11_settles_110 ?_
      refine lv_iconst (v := (1 : Int32)) hx hb dX11_settles_111 (by decide) ?_
      refine lv_iadd hx hb dX11_settles_112 ?_
      refine w_lald (f := z9) (j := 83) hx hb hQ.1 hP 1 1 rfl rfl (by decide) (by omega) (by decide) dX11_settles_113 ?_
      refine lv_ladd hx hb dX11_settles_114 ?_
      refine lv_lstore_n (lv' := [(2, .long ((z9 82) + (z9 83))), (1, .int (0 : Int32)), (0, .ref b0)]) hx hb dX11_settles_115 rfl hl (by decide) rfl (fun ls hl => ?_)
      refine lv_aload_n hx hb dX11_settles_116 rfl (lv_at hl 2 rfl) ?_
      refine va_get (D := D) (ci := 11) (v := .ref b2) (C := RX11) (T := TX11) (N := 10) hx hb hts hinX11 hown hQ.1 hP 0 rfl rfl 0 (by decide) (hts (.fieldLink RX11 7 "HeatPumpPlantModel" "row" "[J") (List.mem_of_getElem? (i := 3) rfl)) (fun _ h9 => h9) rfl dX11_settles_117 ?_
      refine lv_bipush (v := (82 : Int32)) hx hb dX11_settles_120 (by decide) ?_
      refine lv_iload_n hx hb dX11_settles_122 rfl (lv_at hl 1 rfl) ?_
      refine lv_iadd hx hb dX11_settles_123 ?_
      refine lv_iconst (v := (1 : Int32)) hx hb dX11_settles_124 (by decide) ?_
      refine lv_iadd hx hb dX11_settles_125 ?_
      refine lv_lload_n hx hb dX11_settles_126 rfl (lv_at hl 0 rfl) ?_
      refine lv_ldc2 (own := RX11) (index := 29) (v := (2 : Int64)) hx hb hown (hts (.constantLong RX11 29 (2)) (List.mem_of_getElem? (i := 4) rfl)) dX11_settles_127 ?_
      have hPc : va_P D vwCl (wF []) H := hP.sub [] rfl
      refine c_Rl (va_runS (As := [.long ((z9 82) + (z9 83)), .long (2 : Int64)]) (rest := [.int (((82 : Int32) + (0 : Int32)) + (1 : Int32)), .ref b2]) ⟨hx, hb, hml, hown, hts⟩ (m11_div l D cI cL cP ((z9 82) + (z9 83)) (2 : Int64) (by decide) H) (va_cwS 2 hts gX11_settles_X11_div rfl rfl rfl (by decide +kernel) ⟨Nat.le_of_ble_eq_true rfl, Nat.le_of_ble_eq_true rfl⟩) (preR_S hQ hPc) rfl rfl hl.1 rfl (lv_room (Nat.le_of_ble_eq_true rfl)) dX11_settles_130 ⟨Nat.le_of_ble_eq_true rfl, Nat.le_of_ble_eq_true rfl⟩) hS (fun locs hS => ?_)
      refine w_last (f := z9) (j := 83) hx hb hQ.1 hP hD hS 1 1 rfl rfl (by decide) (by omega) (by decide) dX11_settles_133 (fun H locs hP hD hS => ?_)
      have hP : va_P D vwCl (wF [gN b0 b2 b1 x0, gR cL b2 (vp_updL z9 83 (F11_div ((z9 82) + (z9 83)) (2 : Int64)))]) H := hP
      have hD : va_D A (wF [gN b0 b2 b1 x0, gR cL b2 (vp_updL z9 83 (F11_div ((z9 82) + (z9 83)) (2 : Int64)))]) := hD
      refine lv_aload_n hx hb dX11_settles_134 rfl (lv_at hl 2 rfl) ?_
      refine va_get (D := D) (ci := 11) (v := .ref b2) (C := RX11) (T := TX11) (N := 10) hx hb hts hinX11 hown hQ.1 hP 0 rfl rfl 0 (by decide) (hts (.fieldLink RX11 7 "HeatPumpPlantModel" "row" "[J") (List.mem_of_getElem? (i := 3) rfl)) (fun _ h9 => h9) rfl dX11_settles_135 ?_
      refine lv_bipush (v := (82 : Int32)) hx hb dX11_settles_138 (by decide) ?_
      refine lv_iload_n hx hb dX11_settles_140 rfl (lv_at hl 1 rfl) ?_
      refine lv_iadd hx hb dX11_settles_141 ?_
      refine lv_lload_n hx hb dX11_settles_142 rfl (lv_at hl 0 rfl) ?_
      refine lv_aload_n hx hb dX11_settles_143 rfl (lv_at hl 2 rfl) ?_
      refine va_get (D := D) (ci := 11) (v := .ref b2) (C := RX11) (T := TX11) (N := 10) hx hb hts hinX11 hown hQ.1 hP 0 rfl rfl 0 (by decide) (hts (.fieldLink RX11 7 "HeatPumpPlantModel" "row" "[J") (List.mem_of_getElem? (i := 3) rfl)) (fun _ h9 => h9) rfl dX11_settles_144 ?_
      refine lv_bipush (v := (82 : Int32)) hx hb dX11_settles_147 (by decide) ?_
      refine lv_iload_n hx hb dX11_settles_149 rfl (lv_at hl 1 rfl) ?_
      refine lv_iadd hx hb dX11_settles_150 ?_
      refine lv_iconst (v := (1 : Int32)) hx hb dX11_settles_151 (by decide) ?_
      refine lv_iadd hx hb dX11_settles_152 ?_
      refine w_lald (f := (vp_updL z9 83 (F11_div ((z9 82) + (z9 83)) (2 : Int64)))) (j := 83) hx hb hQ.1 hP 1 1 rfl rfl (by decide) (by omega) (by decide) dX11_settles_153 ?_
      refine w_topL (show ((vp_updL z9 83 (F11_div ((z9 82) + (z9 83)) (2 : Int64))) 83) = (F11_div ((z9 82) + (z9 83)) (2 : Int64)) from (w_rds _ _ _)) ?_
      refine lv_lsub hx hb dX11_settles_154 ?_
      refine w_last (f := (vp_updL z9 83 (F11_div ((z9 82) + (z9 83)) (2 : Int64)))) (j := 82) hx hb hQ.1 hP hD hS 1 1 rfl rfl (by decide) (by omega) (by decide) dX11_settles_155 (fun H locs hP hD hS => ?_)
      have hP : va_P D vwCl (wF [gN b0 b2 b1 x0, gR cL b2 (vp_updL (vp_updL z9 83 (F11_div ((z9 82) + (z9 83)) (2 : Int64))) 82 (((z9 82) + (z9 83)) - (F11_div ((z9 82) + (z9 83)) (2 : Int64))))]) H := hP
      have hD : va_D A (wF [gN b0 b2 b1 x0, gR cL b2 (vp_updL (vp_updL z9 83 (F11_div ((z9 82) + (z9 83)) (2 : Int64))) 82 (((z9 82) + (z9 83)) - (F11_div ((z9 82) + (z9 83)) (2 : Int64))))]) := hD
      exact kk (vp_updL (vp_updL z9 83 (F11_div ((z9 82) + (z9 83)) (2 : Int64))) 82 (((z9 82) + (z9 83)) - (F11_div ((z9 82) + (z9 83)) (2 : Int64)))) ((Eq.trans (if_neg c11) (rfl)).symm) (w_ne (by omega) (w_ne (by omega) hf81_z9)) H locs hP hD hS ls (lv_sub hl [1, 2] rfl)
  intro z12 hz12 hf81_z12 H locs hP hD hS ls hl
  refine lv_iinc (v := (-1 : Int32)) (lv' := [(1, .int (-1 : Int32)), (0, .ref b0)]) hx hb dX11_settles_156 hl (k := 0) rfl (by decide) (by decide) rfl (fun ls hl => ?_)
  refine lv_goto (tgt := 74) hx hb dX11_settles_159 (by decide) ?_
  refine lv_iload_n hx hb dX11_settles_74 rfl (lv_at hl 0 rfl) ?_
  refine lv_if_lt (tgt := 162) hx hb dX11_settles_75 (by decide) (fun _ => ?_) (fun c13 => absurd c13 (by decide))
  refine lv_iconst (v := (0 : Int32)) hx hb dX11_settles_162 (by decide) ?_
  refine lv_istore_n (lv' := [(1, .int (0 : Int32)), (0, .ref b0)]) hx hb dX11_settles_163 rfl hl (by decide) rfl (fun ls hl => ?_)
  have loop164 : ∀ (fu : Nat) (i : Nat) (f : Nat → Int64) (hi : i ≤ 3) (hf81 : ¬ f 81 = 0) (hm : 3 - i < fu) (kk : ∀ z : Nat × (Nat → Int64), z = L11_settles_164 x0 x1 z3 z6 z9 z12 fu i f → ((z.1) ≤ 3) → (¬ (z.2) 81 = 0) → ∀ (H : Heap) (locs : List Loc) (_ : va_P D vwCl (wF [gN b0 b2 b1 x0, gR cL b2 z.2]) H) (_ : va_D A (wF [gN b0 b2 b1 x0, gR cL b2 z.2])) (_ : va_S A s.heap H locs) (ls : Array Slot) (_ : lv_has ls 4 [(1, .int (nI z.1)), (0, .ref b0)]), W p l e (headSpec wsX11_settles ({ frames := 2, cells := 0, slots := 0, locals := 46 })).room s m #[.ref b0] below meth c H locs 0 0 (MQ below (va_Qv (fun (w : (Nat → Int64)) => w = F11_settles x0 x1) (qW D A (fun w : (Nat → Int64) => (wF [gN b0 b2 b1 x0, gR cL b2 w]))) A) #[.ref b0] s 0 0 A) (F0 m 246 ls [])), ∀ (H : Heap) (locs : List Loc) (_ : va_P D vwCl (wF [gN b0 b2 b1 x0, gR cL b2 f]) H) (_ : va_D A (wF [gN b0 b2 b1 x0, gR cL b2 f])) (_ : va_S A s.heap H locs) (ls : Array Slot) (_ : lv_has ls 4 [(1, .int (nI i)), (0, .ref b0)]), W p l e (headSpec wsX11_settles ({ frames := 2, cells := 0, slots := 0, locals := 46 })).room s m #[.ref b0] below meth c H locs 0 0 (MQ below (va_Qv (fun (w : (Nat → Int64)) => w = F11_settles x0 x1) (qW D A (fun w : (Nat → Int64) => (wF [gN b0 b2 b1 x0, gR cL b2 w]))) A) #[.ref b0] s 0 0 A) (F0 m 164 ls []) := by
    intro fu
    induction fu with
    | zero => intro i f hi hf81 hm; exact absurd hm (by omega)
    | succ fu ih =>
      intro i f hi hf81 hm kk H locs hP hD hS ls hl
      refine lv_iload_n hx hb dX11_settles_164 rfl (lv_at hl 0 rfl) ?_
      refine lv_iconst (v := (3 : Int32)) hx hb dX11_settles_165 (by decide) ?_
      refine lv_icmp_ge (tgt := 246) hx hb dX11_settles_166 (by decide) (fun c14 => ?_) (fun c14 => ?_)
      · have c14 : 3 ≤ i := (nI_leI (a := 3) (b := i) (by omega) (by omega)).mp c14
        exact kk (i, f) ((Eq.trans (if_pos c14) (rfl)).symm) hi hf81 H locs hP hD hS ls (lv_sub hl [0, 1] rfl)
      · have c14 : ¬ (3 ≤ i) := fun h9 => c14 ((nI_leI (a := 3) (b := i) (by omega) (by omega)).mpr h9)
        refine lv_aload_n hx hb dX11_settles_169 rfl (lv_at hl 1 rfl) ?_
        refine lv_iload_n hx hb dX11_settles_170 rfl (lv_at hl 0 rfl) ?_
        have hPc : va_P D vwCl (wF [gN b0 b2 b1 x0, gR cL b2 f]) H := hP.sub [0, 1] rfl
        refine c_Rl (va_runV (As := [.int (nI i)]) (rest := []) ⟨hx, hb, hml, hown, hts⟩ (m11_warmth l D cI cL cP b0 b1 b2 x0 f i (by omega) hf81 H) (cwV 1 hts gX11_settles_X11_warmth rfl rfl rfl (by decide +kernel) ⟨Nat.le_of_ble_eq_true rfl, Nat.le_of_ble_eq_true rfl⟩) (preR_V (q := (RX11, TX11, 10)) (q0 := 0) hQ hPc rfl rfl) rfl rfl hl.1 rfl (lv_room (Nat.le_of_ble_eq_true rfl)) dX11_settles_171 ⟨Nat.le_of_ble_eq_true rfl, Nat.le_of_ble_eq_true rfl⟩) hS (fun locs hS => ?_)
        refine lv_aload_n hx hb dX11_settles_174 rfl (lv_at hl 1 rfl) ?_
        refine lv_iload_n hx hb dX11_settles_175 rfl (lv_at hl 0 rfl) ?_
        refine lv_iconst (v := (1 : Int32)) hx hb dX11_settles_176 (by decide) ?_
        refine lv_iadd hx hb dX11_settles_177 ?_
        refine w_topn (i + 1) ((congr (congrArg HAdd.hAdd (show (nI i) = nI i from rfl)) (show (1 : Int32) = nI 1 from (rfl : (1 : Int32) = nI 1))).trans (nI_add i 1)) ?_
        have hPc : va_P D vwCl (wF [gN b0 b2 b1 x0, gR cL b2 f]) H := hP.sub [0, 1] rfl
        refine c_Rl (va_runV (As := [.int (nI (i + 1))]) (rest := [.long (F11_warmth f i)]) ⟨hx, hb, hml, hown, hts⟩ (m11_warmth l D cI cL cP b0 b1 b2 x0 f (i + 1) (by omega) hf81 H) (cwV 1 hts gX11_settles_X11_warmth rfl rfl rfl (by decide +kernel) ⟨Nat.le_of_ble_eq_true rfl, Nat.le_of_ble_eq_true rfl⟩) (preR_V (q := (RX11, TX11, 10)) (q0 := 0) hQ hPc rfl rfl) rfl rfl hl.1 rfl (lv_room (Nat.le_of_ble_eq_true rfl)) dX11_settles_178 ⟨Nat.le_of_ble_eq_true rfl, Nat.le_of_ble_eq_true rfl⟩) hS (fun locs hS => ?_)
        refine w_lle (tgt := 240) hx hb dX11_settles_181 dX11_settles_182 (by decide) (fun c15 => ?_) (fun c15 => ?_)
        · have c15 : (F11_warmth f i) ≤ (F11_warmth f (i + 1)) := c15
          refine lv_iinc (v := (nI (i + 1))) (lv' := [(1, .int (nI (i + 1))), (0, .ref b0)]) hx hb dX11_settles_240 hl (k := 0) rfl (nI_add i 1) (by decide) rfl (fun ls hl => ?_)
          refine lv_goto (tgt := 164) hx hb dX11_settles_243 (by decide) ?_
          have hP : va_P D vwCl (wF [gN b0 b2 b1 x0, gR cL b2 f]) H := hP
          have hD : va_D A (wF [gN b0 b2 b1 x0, gR cL b2 f]) := hD
          exact ih (i + 1) f (by omega) (hf81) (by omega) (fun z hz => kk z (hz.trans ((Eq.trans (if_neg c14) (Eq.trans (if_pos c15) (rfl))).symm))) H locs hP hD hS ls (lv_sub hl [0, 1] rfl)
        · have c15 : ¬ ((F11_warmth f i) ≤ (F11_warmth f (i + 1))) := c15
          refine lv_aload_n hx hb dX11_settles_185 rfl (lv_at hl 1 rfl) ?_
          refine lv_iload_n hx hb dX11_settles_186 rfl (lv_at hl 0 rfl) ?_
          have hPc : va_P D vwCl (wF [gN b0 b2 b1 x0, gR cL b2 f]) H := hP.sub [0, 1] rfl
          refine c_Rl (va_runV (As := [.int (nI i)]) (rest := []) ⟨hx, hb, hml, hown, hts⟩ (m11_warmth l D cI cL cP b0 b1 b2 x0 f i (by omega) hf81 H) (cwV 1 hts gX11_settles_X11_warmth rfl rfl rfl (by decide +kernel) ⟨Nat.le_of_ble_eq_true rfl, Nat.le_of_ble_eq_true rfl⟩) (preR_V (q := (RX11, TX11, 10)) (q0 := 0) hQ hPc rfl rfl) rfl rfl hl.1 rfl (lv_room (Nat.le_of_ble_eq_true rfl)) dX11_settles_187 ⟨Nat.le_of_ble_eq_true rfl, Nat.le_of_ble_eq_true rfl⟩) hS (fun locs hS => ?_)
          refine lv_aload_n hx hb dX11_settles_190 rfl (lv_at hl 1 rfl) ?_
          refine lv_iload_n hx hb dX11_settles_191 rfl (lv_at hl 0 rfl) ?_
          refine lv_iconst (v := (1 : Int32)) hx hb dX11_settles_192 (by decide) ?_
          refine lv_iadd hx hb dX11_settles_193 ?_
          refine w_topn (i + 1) ((congr (congrArg HAdd.hAdd (show (nI i) = nI i from rfl)) (show (1 : Int32) = nI 1 from (rfl : (1 : Int32) = nI 1))).trans (nI_add i 1)) ?_
          have hPc : va_P D vwCl (wF [gN b0 b2 b1 x0, gR cL b2 f]) H := hP.sub [0, 1] rfl
          refine c_Rl (va_runV (As := [.int (nI (i + 1))]) (rest := [.long (F11_warmth f i)]) ⟨hx, hb, hml, hown, hts⟩ (m11_warmth l D cI cL cP b0 b1 b2 x0 f (i + 1) (by omega) hf81 H) (cwV 1 hts gX11_settles_X11_warmth rfl rfl rfl (by decide +kernel) ⟨Nat.le_of_ble_eq_true rfl, Nat.le_of_ble_eq_true rfl⟩) (preR_V (q := (RX11, TX11, 10)) (q0 := 0) hQ hPc rfl rfl) rfl rfl hl.1 rfl (lv_room (Nat.le_of_ble_eq_true rfl)) dX11_settles_194 ⟨Nat.le_of_ble_eq_true rfl, Nat.le_of_ble_eq_true rfl⟩) hS (fun locs hS => ?_)
          refine lv_lsub hx hb dX11_settles_197 ?_
          refine lv_aload_n hx hb dX11_settles_198 rfl (lv_at hl 1 rfl) ?_
          refine lv_bipush (v := (14 : Int32)) hx hb dX11_settles_199 (by decide) ?_
          have hPc : va_P D vwCl (wF [gN b0 b2 b1 x0, gR cL b2 f]) H := hP.sub [0, 1] rfl
          refine c_Rl (va_runV (As := [.int (nI 14)]) (rest := [.long ((F11_warmth f i) - (F11_warmth f (i + 1)))]) ⟨hx, hb, hml, hown, hts⟩ (m11_set1 l D cI cL cP b0 b1 b2 x0 f 14 (by omega) H) (cwV 1 hts gX11_settles_X11_set1 rfl rfl rfl (by decide +kernel) ⟨Nat.le_of_ble_eq_true rfl, Nat.le_of_ble_eq_true rfl⟩) (preR_V (q := (RX11, TX11, 10)) (q0 := 0) hQ hPc rfl rfl) rfl rfl hl.1 rfl (lv_room (Nat.le_of_ble_eq_true rfl)) dX11_settles_201 ⟨Nat.le_of_ble_eq_true rfl, Nat.le_of_ble_eq_true rfl⟩) hS (fun locs hS => ?_)
          refine lv_lmul hx hb dX11_settles_204 ?_
          refine lv_ldc2 (own := RX11) (index := 23) (v := (10 : Int64)) hx hb hown (hts (.constantLong RX11 23 (10)) (List.mem_of_getElem? (i := 2) rfl)) dX11_settles_205 ?_
          have hPc : va_P D vwCl (wF []) H := hP.sub [] rfl
          refine c_Rl (va_runS (As := [.long (((F11_warmth f i) - (F11_warmth f (i + 1))) * (F11_set1 f 14)), .long (10 : Int64)]) (rest := []) ⟨hx, hb, hml, hown, hts⟩ (m11_div l D cI cL cP (((F11_warmth f i) - (F11_warmth f (i + 1))) * (F11_set1 f 14)) (10 : Int64) (by decide) H) (va_cwS 2 hts gX11_settles_X11_div rfl rfl rfl (by decide +kernel) ⟨Nat.le_of_ble_eq_true rfl, Nat.le_of_ble_eq_true rfl⟩) (preR_S hQ hPc) rfl rfl hl.1 rfl (lv_room (Nat.le_of_ble_eq_true rfl)) dX11_settles_208 ⟨Nat.le_of_ble_eq_true rfl, Nat.le_of_ble_eq_true rfl⟩) hS (fun locs hS => ?_)
          refine lv_lstore_n (lv' := [(2, .long (F11_div (((F11_warmth f i) - (F11_warmth f (i + 1))) * (F11_set1 f 14)) (10 : Int64))), (1, .int (nI i)), (0, .ref b0)]) hx hb dX11_settles_211 rfl hl (by decide) rfl (fun ls hl => ?_)
          refine lv_aload_n hx hb dX11_settles_212 rfl (lv_at hl 2 rfl) ?_
          refine va_get (D := D) (ci := 11) (v := .ref b2) (C := RX11) (T := TX11) (N := 10) hx hb hts hinX11 hown hQ.1 hP 0 rfl rfl 0 (by decide) (hts (.fieldLink RX11 7 "HeatPumpPlantModel" "row" "[J") (List.mem_of_getElem? (i := 3) rfl)) (fun _ h9 => h9) rfl dX11_settles_213 ?_
          refine lv_bipush (v := (82 : Int32)) hx hb dX11_settles_216 (by decide) ?_
          refine lv_iload_n hx hb dX11_settles_218 rfl (lv_at hl 1 rfl) ?_
          refine lv_iadd hx hb dX11_settles_219 ?_
          refine lv_dup2_11 hx hb dX11_settles_220 rfl rfl ?_
          refine w_lald (f := f) (j := (82 + i)) hx hb hQ.1 hP 1 1 rfl rfl ((congr (congrArg HAdd.hAdd (show (82 : Int32) = nI 82 from (rfl : (82 : Int32) = nI 82))) (show (nI i) = nI i from rfl)).trans (nI_add 82 i)) (by omega) (by decide) dX11_settles_221 ?_
          refine lv_lload_n hx hb dX11_settles_222 rfl (lv_at hl 0 rfl) ?_
          refine lv_lsub hx hb dX11_settles_223 ?_
          refine w_last (f := f) (j := (82 + i)) hx hb hQ.1 hP hD hS 1 1 rfl rfl ((congr (congrArg HAdd.hAdd (show (82 : Int32) = nI 82 from (rfl : (82 : Int32) = nI 82))) (show (nI i) = nI i from rfl)).trans (nI_add 82 i)) (by omega) (by decide) dX11_settles_224 (fun H locs hP hD hS => ?_)
          have hP : va_P D vwCl (wF [gN b0 b2 b1 x0, gR cL b2 (vp_updL f (82 + i) ((f (82 + i)) - (F11_div (((F11_warmth f i) - (F11_warmth f (i + 1))) * (F11_set1 f 14)) (10 : Int64))))]) H := hP
          have hD : va_D A (wF [gN b0 b2 b1 x0, gR cL b2 (vp_updL f (82 + i) ((f (82 + i)) - (F11_div (((F11_warmth f i) - (F11_warmth f (i + 1))) * (F11_set1 f 14)) (10 : Int64))))]) := hD
          refine lv_aload_n hx hb dX11_settles_225 rfl (lv_at hl 2 rfl) ?_
          refine va_get (D := D) (ci := 11) (v := .ref b2) (C := RX11) (T := TX11) (N := 10) hx hb hts hinX11 hown hQ.1 hP 0 rfl rfl 0 (by decide) (hts (.fieldLink RX11 7 "HeatPumpPlantModel" "row" "[J") (List.mem_of_getElem? (i := 3) rfl)) (fun _ h9 => h9) rfl dX11_settles_226 ?_
          refine lv_bipush (v := (82 : Int32)) hx hb dX11_settles_229 (by decide) ?_
          refine lv_iload_n hx hb dX11_settles_231 rfl (lv_at hl 1 rfl) ?_
          refine lv_iadd hx hb dX11_settles_232 ?_
          refine lv_iconst (v := (1 : Int32)) hx hb dX11_settles_233 (by decide) ?_
          refine lv_iadd hx hb dX11_settles_234 ?_
          refine lv_dup2_11 hx hb dX11_settles_235 rfl rfl ?_
          refine w_lald (f := (vp_updL f (82 + i) ((f (82 + i)) - (F11_div (((F11_warmth f i) - (F11_warmth f (i + 1))) * (F11_set1 f 14)) (10 : Int64))))) (j := ((82 + i) + 1)) hx hb hQ.1 hP 1 1 rfl rfl ((congr (congrArg HAdd.hAdd (show ((82 : Int32) + (nI i)) = nI (82 + i) from ((congr (congrArg HAdd.hAdd (show (82 : Int32) = nI 82 from (rfl : (82 : Int32) = nI 82))) (show (nI i) = nI i from rfl)).trans (nI_add 82 i)))) (show (1 : Int32) = nI 1 from (rfl : (1 : Int32) = nI 1))).trans (nI_add (82 + i) 1)) (by omega) (by decide) dX11_settles_236 ?_
          refine w_topL (show ((vp_updL f (82 + i) ((f (82 + i)) - (F11_div (((F11_warmth f i) - (F11_warmth f (i + 1))) * (F11_set1 f 14)) (10 : Int64)))) ((82 + i) + 1)) = (f ((82 + i) + 1)) from (w_rd (by omega) rfl)) ?_
          refine lv_lload_n hx hb dX11_settles_237 rfl (lv_at hl 0 rfl) ?_
          refine lv_ladd hx hb dX11_settles_238 ?_
          refine w_last (f := (vp_updL f (82 + i) ((f (82 + i)) - (F11_div (((F11_warmth f i) - (F11_warmth f (i + 1))) * (F11_set1 f 14)) (10 : Int64))))) (j := ((82 + i) + 1)) hx hb hQ.1 hP hD hS 1 1 rfl rfl ((congr (congrArg HAdd.hAdd (show ((82 : Int32) + (nI i)) = nI (82 + i) from ((congr (congrArg HAdd.hAdd (show (82 : Int32) = nI 82 from (rfl : (82 : Int32) = nI 82))) (show (nI i) = nI i from rfl)).trans (nI_add 82 i)))) (show (1 : Int32) = nI 1 from (rfl : (1 : Int32) = nI 1))).trans (nI_add (82 + i) 1)) (by omega) (by decide) dX11_settles_239 (fun H locs hP hD hS => ?_)
          have hP : va_P D vwCl (wF [gN b0 b2 b1 x0, gR cL b2 (vp_updL (vp_updL f (82 + i) ((f (82 + i)) - (F11_div (((F11_warmth f i) - (F11_warmth f (i + 1))) * (F11_set1 f 14)) (10 : Int64)))) ((82 + i) + 1) ((f ((82 + i) + 1)) + (F11_div (((F11_warmth f i) - (F11_warmth f (i + 1))) * (F11_set1 f 14)) (10 : Int64))))]) H := hP
          have hD : va_D A (wF [gN b0 b2 b1 x0, gR cL b2 (vp_updL (vp_updL f (82 + i) ((f (82 + i)) - (F11_div (((F11_warmth f i) - (F11_warmth f (i + 1))) * (F11_set1 f 14)) (10 : Int64)))) ((82 + i) + 1) ((f ((82 + i) + 1)) + (F11_div (((F11_warmth f i) - (F11_warmth f (i + 1))) * (F11_set1 f 14)) (10 : Int64))))]) := hD
          refine lv_iinc (v := (nI (i + 1))) (lv' := [(1, .int (nI (i + 1))), (2, .long (F11_div (((F11_warmth f i) - (F11_warmth f (i + 1))) * (F11_set1 f 14)) (10 : Int64))), (0, .ref b0)]) hx hb dX11_settles_240 hl (k := 1) rfl (nI_add i 1) (by decide) rfl (fun ls hl => ?_)
          refine lv_goto (tgt := 164) hx hb dX11_settles_243 (by decide) ?_
          have hP : va_P D vwCl (wF [gN b0 b2 b1 x0, gR cL b2 (vp_updL (vp_updL f (82 + i) ((f (82 + i)) - (F11_div (((F11_warmth f i) - (F11_warmth f (i + 1))) * (F11_set1 f 14)) (10 : Int64)))) ((82 + i) + 1) ((f ((82 + i) + 1)) + (F11_div (((F11_warmth f i) - (F11_warmth f (i + 1))) * (F11_set1 f 14)) (10 : Int64))))]) H := hP
          have hD : va_D A (wF [gN b0 b2 b1 x0, gR cL b2 (vp_updL (vp_updL f (82 + i) ((f (82 + i)) - (F11_div (((F11_warmth f i) - (F11_warmth f (i + 1))) * (F11_set1 f 14)) (10 : Int64)))) ((82 + i) + 1) ((f ((82 + i) + 1)) + (F11_div (((F11_warmth f i) - (F11_warmth f (i + 1))) * (F11_set1 f 14)) (10 : Int64))))]) := hD
          exact ih (i + 1) (vp_updL (vp_updL f (82 + i) ((f (82 + i)) - (F11_div (((F11_warmth f i) - (F11_warmth f (i + 1))) * (F11_set1 f 14)) (10 : Int64)))) ((82 + i) + 1) ((f ((82 + i) + 1)) + (F11_div (((F11_warmth f i) - (F11_warmth f (i + 1))) * (F11_set1 f 14)) (10 : Int64)))) (by omega) ((w_ne (by omega) (w_ne (by omega) hf81))) (by omega) (fun z hz => kk z (hz.trans ((Eq.trans (if_neg c14) (Eq.trans (if_neg c15) (rfl))).symm))) H locs hP hD hS ls (lv_sub hl [0, 2] rfl)
  have hP : va_P D vwCl (wF [gN b0 b2 b1 x0, gR cL b2 z12]) H := hP
  have hD : va_D A (wF [gN b0 b2 b1 x0, gR cL b2 z12]) := hD
  refine loop164 4 0 z12 (by omega) (hf81_z12) (by omega) (fun z16 hz16 hi_z16 hf81_z16 H locs hP hD hS ls hl => ?_) H locs hP hD hS ls (lv_sub hl [0, 1] rfl)
  exact W.vret hx hb hr (fun t ht hW => ⟨⟨z16.2, rfl, ((Eq.trans (congrArg (K11_settles_1 x0 x1) hz3.symm) (Eq.trans (congrArg (K11_settles_2 x0 x1 z3) hz6.symm) (Eq.trans (congrArg (K11_settles_3 x0 x1 z3 z6) hz9.symm) (Eq.trans (congrArg (K11_settles_4 x0 x1 z3 z6 z9) hz12.symm) (Eq.trans (congrArg (K11_settles_5 x0 x1 z3 z6 z9 z12) hz16.symm) (rfl)))))).symm), by rw [ht]; exact hP, hD⟩, hS.F ht⟩) hS.2.2 dX11_settles_246
theorem set_l1 (x0 : MoN) (x1 : Nat → Int64) (fu i : Nat) (f : Nat → Int64) : i ≤ 4 → 4 - i < fu → mOe f (L11_settles_2 x0 x1 fu i f).2 := by
  induction fu generalizing i f with
  | zero => intro _ h; exact absurd h (by omega)
  | succ fu ih =>
    intro h1 h2
    unfold L11_settles_2
    split
    · exact mOe.r
    · refine mOe.t ?_ (ih _ _ (by omega) (by omega))
      repeat refine mOe.u ?_ (by omega) _
      exact mOe.r
theorem set_l2 (x0 : MoN) (x1 : Nat → Int64) (z3 : Nat × (Nat → Int64)) (z6 z9 z12 : Nat → Int64) (fu i : Nat) (f : Nat → Int64) : i ≤ 3 → 3 - i < fu → mOe f (L11_settles_164 x0 x1 z3 z6 z9 z12 fu i f).2 := by
  induction fu generalizing i f with
  | zero => intro _ h; exact absurd h (by omega)
  | succ fu ih =>
    intro h1 h2
    unfold L11_settles_164
    split
    · exact mOe.r
    · split
      · exact ih _ _ (by omega) (by omega)
      · refine mOe.t ?_ (ih _ _ (by omega) (by omega))
        repeat refine mOe.u ?_ (by omega) _
        exact mOe.r
theorem mOe.ite {c : Prop} [Decidable c] {f a b : Nat → Int64} (h1 : mOe f a) (h2 : mOe f b) : mOe f (if c then a else b) := by
  split
  · exact h1
  · exact h2
theorem set_b0 (x0 : MoN) (x1 : Nat → Int64) (z3 : Nat × (Nat → Int64)) : mOe z3.2 (B11_settles_78 x0 x1 z3) := mOe.ite mOe.r (mOe.u (mOe.u mOe.r (by omega) _) (by omega) _)
theorem set_b1 (x0 : MoN) (x1 : Nat → Int64) (z3 : Nat × (Nat → Int64)) (z6 : Nat → Int64) : mOe z6 (B11_settles_78_1 x0 x1 z3 z6) := mOe.ite mOe.r (mOe.u (mOe.u mOe.r (by omega) _) (by omega) _)
theorem set_b2 (x0 : MoN) (x1 : Nat → Int64) (z3 : Nat × (Nat → Int64)) (z6 z9 : Nat → Int64) : mOe z9 (B11_settles_78_2 x0 x1 z3 z6 z9) := mOe.ite mOe.r (mOe.u (mOe.u mOe.r (by omega) _) (by omega) _)
theorem set_o (x0 : MoN) (x1 : Nat → Int64) : mOe x1 (F11_settles x0 x1) := by
  unfold F11_settles K11_settles_1 K11_settles_2 K11_settles_3 K11_settles_4 K11_settles_5
  exact (set_l1 x0 x1 5 0 x1 (by omega) (by omega)).t ((set_b0 x0 x1 _).t ((set_b1 x0 x1 _ _).t ((set_b2 x0 x1 _ _ _).t (set_l2 x0 x1 _ _ _ _ _ _ _ (by omega) (by omega)))))
def B11_minute_52 (x0 : MoN) (x1 : (Nat → Int64)) : (Nat → Int64) := (if (x1 86) = (2 : Int64) then (if ((x1 91) - (x1 90)) < (F11_set1 x1 11) then x1 else (vp_updL (vp_updL x1 86 (1 : Int64)) 89 (0 : Int64))) else x1)
def K11_minute_5 (x0 : MoN) (x1 : (Nat → Int64)) (z3 : (Nat → Int64)) (z6 : (Nat → Int64)) (z7 : (Nat → Int64)) (z8 : (Nat → Int64)) (z9 : (Nat → Int64)) : (Nat → Int64) := (if (z9 86) = (0 : Int64) then (vp_updL (vp_updL z9 88 ((z9 88) + (1 : Int64))) 91 ((z9 91) + (1 : Int64))) else (vp_updL (vp_updL z9 87 ((z9 87) + (1 : Int64))) 91 ((z9 91) + (1 : Int64))))
def K11_minute_4 (x0 : MoN) (x1 : (Nat → Int64)) (z3 : (Nat → Int64)) (z6 : (Nat → Int64)) (z7 : (Nat → Int64)) (z8 : (Nat → Int64)) : (Nat → Int64) := (K11_minute_5 x0 x1 z3 z6 z7 z8 (F11_settles x0 z8))
def K11_minute_3 (x0 : MoN) (x1 : (Nat → Int64)) (z3 : (Nat → Int64)) (z6 : (Nat → Int64)) (z7 : (Nat → Int64)) : (Nat → Int64) := (K11_minute_4 x0 x1 z3 z6 z7 (F11_draws z7 (F11_demandOf x1 ((nT (x1 91) / 60 % 24)))))
def K11_minute_2 (x0 : MoN) (x1 : (Nat → Int64)) (z3 : (Nat → Int64)) (z6 : (Nat → Int64)) : (Nat → Int64) := (K11_minute_3 x0 x1 z3 z6 (F11_produces x0 z6 (x1 (17 + ((nT (x1 91) / 60 % 24)))) (x1 (41 + ((nT (x1 91) / 60 % 24))))))
def K11_minute_1 (x0 : MoN) (x1 : (Nat → Int64)) (z3 : (Nat → Int64)) : (Nat → Int64) := (K11_minute_2 x0 x1 z3 (F11_decides z3 ((F11_rule x0 z3 (F11_targetOf x0 x1 (nT (x1 91) / 60 % 24)) (x1 (41 + (nT (x1 91) / 60 % 24)))).toNatClampNeg)))
def F11_minute (x0 : MoN) (x1 : (Nat → Int64)) : (Nat → Int64) := (K11_minute_1 x0 x1 (B11_minute_52 x0 x1))
set_option maxHeartbeats 4000000 in
set_option maxRecDepth 100000 in
theorem m11_minute (l : Launch) (D : va_G) (cI cL cP : ClassId) (b0 : Nat) (b1 : Nat) (b2 : Nat) (x0 : MoN) (x1 : (Nat → Int64)) (hm : mP x1) (sz : Nat) : Met l yX11_minute wsX11_minute ({ frames := 3, cells := 0, slots := 0, locals := 78 }) (va_Pc [.ref b0] (pM D cI cL cP sz (wF [gN b0 b2 b1 x0, gR cL b2 x1]))) (va_Qv (fun (w : (Nat → Int64)) => w = F11_minute x0 x1) (qW D (va_A (wF [gN b0 b2 b1 x0, gR cL b2 x1]) sz) (fun w : (Nat → Int64) => (wF [gN b0 b2 b1 x0, gR cL b2 w]))) (va_A (wF [gN b0 b2 b1 x0, gR cL b2 x1]) sz)) 0 0 (va_A (wF [gN b0 b2 b1 x0, gR cL b2 x1]) sz) := by
  refine Met.ofW (cc := cX11_minute) (maxL := 10) (ret := none) (by decide) rfl ?_
  intro p e s m args below meth c s₁ B hml hv
  obtain ⟨rfl, hsz, hP, hQ, hD0⟩ := hv
  have hx := B.exec
  have hb := B.bytes
  have hr := B.returns
  have hts := atoms_spec (ws := wsX11_minute) B.pre
  have hown : s.vm.findClass RX11 = some m.cls := findClass_of_methodNamed B.named
  have hlocks := B.notSynchronized
  subst hsz
  have hD := hD0.self (sz := s.heap.size)
  generalize hAe : va_A (wF [gN b0 b2 b1 x0, gR cL b2 x1]) s.heap.size = A at hD ⊢
  have hA : ∀ q : Nat, s.heap.size ≤ q → A q := fun q h => by rw [← hAe]; exact Or.inr h
  have hS : va_S A s.heap s.heap [] := va_S.rf
  have hP : va_P D vwCl (wF [gN b0 b2 b1 x0, gR cL b2 x1]) s.heap := hP
  have hl := lv_entry ([.ref b0]) (n := 10) (Nat.le_of_ble_eq_true rfl)
  rw [lg_entry_eq]
  generalize (lg_sl ([.ref b0]) ++ List.replicate (10 - (lg_sl ([.ref b0])).length) Slot.unset).toArray = ls at hl ⊢
  have hl : lv_has ls 10 [(0, .ref b0)] := hl
  have hinX11 : ∀ w ∈ wsX110, w ∈ wsX11_minute := fun _ h => List.mem_cons_of_mem _ (List.mem_append_right _ h)
  refine lv_aload_n hx hb dX11_minute_0 rfl (lv_at hl 0 rfl) ?_
  refine va_get (D := D) (ci := 11) (v := .ref b2) (C := RX11) (T := TX11) (N := 10) hx hb hts hinX11 hown hQ.1 hP 0 rfl rfl 0 (by decide) (hts (.fieldLink RX11 7 "HeatPumpPlantModel" "row" "[J") (List.mem_of_getElem? (i := 1) rfl)) (fun _ h9 => h9) rfl dX11_minute_1 ?_
  refine lv_bipush (v := (91 : Int32)) hx hb dX11_minute_4 (by decide) ?_
  refine w_lald (f := x1) (j := 91) hx hb hQ.1 hP 1 1 rfl rfl (rfl : (91 : Int32) = nI 91) (by omega) (by decide) dX11_minute_6 ?_
  refine lv_ldc2 (own := RX11) (index := 121) (v := (60 : Int64)) hx hb hown (hts (.constantLong RX11 121 (60)) (List.mem_of_getElem? (i := 2) rfl)) dX11_minute_7 ?_
  refine lv_ldiv hx hb dX11_minute_10 (by decide) ?_
  refine lv_ldc2 (own := RX11) (index := 133) (v := (24 : Int64)) hx hb hown (hts (.constantLong RX11 133 (24)) (List.mem_of_getElem? (i := 3) rfl)) dX11_minute_11 ?_
  refine lv_lrem hx hb dX11_minute_14 (by decide) ?_
  refine lv_l2i hx hb dX11_minute_15 rfl ?_
  refine w_topn ((nT (x1 91) / 60 % 24)) (w_h24 hm.2.2.2) ?_
  refine lv_istore_n (lv' := [(1, .int (nI ((nT (x1 91) / 60 % 24)))), (0, .ref b0)]) hx hb dX11_minute_16 rfl hl (by decide) rfl (fun ls hl => ?_)
  refine lv_aload_n hx hb dX11_minute_17 rfl (lv_at hl 1 rfl) ?_
  refine va_get (D := D) (ci := 11) (v := .ref b2) (C := RX11) (T := TX11) (N := 10) hx hb hts hinX11 hown hQ.1 hP 0 rfl rfl 0 (by decide) (hts (.fieldLink RX11 7 "HeatPumpPlantModel" "row" "[J") (List.mem_of_getElem? (i := 1) rfl)) (fun _ h9 => h9) rfl dX11_minute_18 ?_
  refine lv_bipush (v := (17 : Int32)) hx hb dX11_minute_21 (by decide) ?_
  refine lv_iload_n hx hb dX11_minute_23 rfl (lv_at hl 0 rfl) ?_
  refine lv_iadd hx hb dX11_minute_24 ?_
  refine w_lald (f := x1) (j := (17 + ((nT (x1 91) / 60 % 24)))) hx hb hQ.1 hP 1 1 rfl rfl ((congr (congrArg HAdd.hAdd (show (17 : Int32) = nI 17 from (rfl : (17 : Int32) = nI 17))) (show (nI ((nT (x1 91) / 60 % 24))) = nI ((nT (x1 91) / 60 % 24)) from rfl)).trans (nI_add 17 ((nT (x1 91) / 60 % 24)))) (by omega) (by decide) dX11_minute_25 ?_
  refine lv_lstore_n (lv' := [(2, .long (x1 (17 + ((nT (x1 91) / 60 % 24))))), (1, .int (nI ((nT (x1 91) / 60 % 24)))), (0, .ref b0)]) hx hb dX11_minute_26 rfl hl (by decide) rfl (fun ls hl => ?_)
  refine lv_aload_n hx hb dX11_minute_27 rfl (lv_at hl 2 rfl) ?_
  refine va_get (D := D) (ci := 11) (v := .ref b2) (C := RX11) (T := TX11) (N := 10) hx hb hts hinX11 hown hQ.1 hP 0 rfl rfl 0 (by decide) (hts (.fieldLink RX11 7 "HeatPumpPlantModel" "row" "[J") (List.mem_of_getElem? (i := 1) rfl)) (fun _ h9 => h9) rfl dX11_minute_28 ?_
  refine lv_bipush (v := (41 : Int32)) hx hb dX11_minute_31 (by decide) ?_
  refine lv_iload_n hx hb dX11_minute_33 rfl (lv_at hl 1 rfl) ?_
  refine lv_iadd hx hb dX11_minute_34 ?_
  refine w_lald (f := x1) (j := (41 + ((nT (x1 91) / 60 % 24)))) hx hb hQ.1 hP 1 1 rfl rfl ((congr (congrArg HAdd.hAdd (show (41 : Int32) = nI 41 from (rfl : (41 : Int32) = nI 41))) (show (nI ((nT (x1 91) / 60 % 24))) = nI ((nT (x1 91) / 60 % 24)) from rfl)).trans (nI_add 41 ((nT (x1 91) / 60 % 24)))) (by omega) (by decide) dX11_minute_35 ?_
  refine lv_lstore (lv' := [(4, .long (x1 (41 + ((nT (x1 91) / 60 % 24))))), (2, .long (x1 (17 + ((nT (x1 91) / 60 % 24))))), (1, .int (nI ((nT (x1 91) / 60 % 24)))), (0, .ref b0)]) hx hb dX11_minute_36 hl (by decide) rfl (fun ls hl => ?_)
  refine lv_aload_n hx hb dX11_minute_38 rfl (lv_at hl 3 rfl) ?_
  refine lv_iload_n hx hb dX11_minute_39 rfl (lv_at hl 2 rfl) ?_
  have hPc : va_P D vwCl (wF [gN b0 b2 b1 x0, gR cL b2 x1]) s.heap := hP.sub [0, 1] rfl
  refine c_Rl (va_runV (As := [.int (nI ((nT (x1 91) / 60 % 24)))]) (rest := []) ⟨hx, hb, hml, hown, hts⟩ (m11_demandOf l D cI cL cP b0 b1 b2 x0 x1 ((nT (x1 91) / 60 % 24)) (by omega) s.heap) (cwV 1 hts gX11_minute_X11_demandOf rfl rfl rfl (by decide +kernel) ⟨Nat.le_of_ble_eq_true rfl, Nat.le_of_ble_eq_true rfl⟩) (preR_V (q := (RX11, TX11, 10)) (q0 := 0) hQ hPc rfl rfl) rfl rfl hl.1 rfl (lv_room (Nat.le_of_ble_eq_true rfl)) dX11_minute_40 ⟨Nat.le_of_ble_eq_true rfl, Nat.le_of_ble_eq_true rfl⟩) hS (fun locs hS => ?_)
  refine lv_lstore (lv' := [(6, .long (F11_demandOf x1 ((nT (x1 91) / 60 % 24)))), (4, .long (x1 (41 + ((nT (x1 91) / 60 % 24))))), (2, .long (x1 (17 + ((nT (x1 91) / 60 % 24))))), (1, .int (nI ((nT (x1 91) / 60 % 24)))), (0, .ref b0)]) hx hb dX11_minute_43 hl (by decide) rfl (fun ls hl => ?_)
  refine lv_aload_n hx hb dX11_minute_45 rfl (lv_at hl 4 rfl) ?_
  refine lv_iload_n hx hb dX11_minute_46 rfl (lv_at hl 3 rfl) ?_
  have hPc : va_P D vwCl (wF [gN b0 b2 b1 x0, gR cL b2 x1]) s.heap := hP.sub [0, 1] rfl
  refine c_Rl (va_runV (As := [.int (nI ((nT (x1 91) / 60 % 24)))]) (rest := []) ⟨hx, hb, hml, hown, hts⟩ (m11_targetOf l D cI cL cP b0 b1 b2 x0 x1 ((nT (x1 91) / 60 % 24)) (by omega) hm.1.2 hm.1.1 s.heap) (cwV 1 hts gX11_minute_X11_targetOf rfl rfl rfl (by decide +kernel) ⟨Nat.le_of_ble_eq_true rfl, Nat.le_of_ble_eq_true rfl⟩) (preR_V (q := (RX11, TX11, 10)) (q0 := 0) hQ hPc rfl rfl) rfl rfl hl.1 rfl (lv_room (Nat.le_of_ble_eq_true rfl)) dX11_minute_47 ⟨Nat.le_of_ble_eq_true rfl, Nat.le_of_ble_eq_true rfl⟩) hS (fun locs hS => ?_)
  refine lv_lstore (lv' := [(8, .long (F11_targetOf x0 x1 ((nT (x1 91) / 60 % 24)))), (6, .long (F11_demandOf x1 ((nT (x1 91) / 60 % 24)))), (4, .long (x1 (41 + ((nT (x1 91) / 60 % 24))))), (2, .long (x1 (17 + ((nT (x1 91) / 60 % 24))))), (1, .int (nI ((nT (x1 91) / 60 % 24)))), (0, .ref b0)]) hx hb dX11_minute_50 hl (by decide) rfl (fun ls hl => ?_)
  refine w_suf (P := ∀ z : (Nat → Int64), z = B11_minute_52 x0 x1 → (mOe x1 (z)) → ∀ (H : Heap) (locs : List Loc) (_ : va_P D vwCl (wF [gN b0 b2 b1 x0, gR cL b2 z]) H) (_ : va_D A (wF [gN b0 b2 b1 x0, gR cL b2 z])) (_ : va_S A s.heap H locs) (ls : Array Slot) (_ : lv_has ls 10 [(8, .long (F11_targetOf x0 x1 ((nT (x1 91) / 60 % 24)))), (6, .long (F11_demandOf x1 ((nT (x1 91) / 60 % 24)))), (4, .long (x1 (41 + ((nT (x1 91) / 60 % 24))))), (2, .long (x1 (17 + ((nT (x1 91) / 60 % 24))))), (1, .int (nI ((nT (x1 91) / 60 % 24)))), (0, .ref b0)]), W p l e (headSpec wsX11_minute ({ frames := 3, cells := 0, slots := 0, locals := 78 })).room s m #[.ref b0] below meth c H locs 0 0 (MQ below (va_Qv (fun (w : (Nat → Int64)) => w = F11_minute x0 x1) (qW D A (fun w : (Nat → Int64) => (wF [gN b0 b2 b1 x0, gR cL b2 w]))) A) #[.ref b0] s 0 0 A) (F0 m 107 ls [])) (fun kk => ?_) ?_
  · refine lv_aload_n hx hb dX11_minute_52 rfl (lv_at hl 5 rfl) ?_
    refine va_get (D := D) (ci := 11) (v := .ref b2) (C := RX11) (T := TX11) (N := 10) hx hb hts hinX11 hown hQ.1 hP 0 rfl rfl 0 (by decide) (hts (.fieldLink RX11 7 "HeatPumpPlantModel" "row" "[J") (List.mem_of_getElem? (i := 1) rfl)) (fun _ h9 => h9) rfl dX11_minute_53 ?_
    refine lv_bipush (v := (86 : Int32)) hx hb dX11_minute_56 (by decide) ?_
    refine w_lald (f := x1) (j := 86) hx hb hQ.1 hP 1 1 rfl rfl (rfl : (86 : Int32) = nI 86) (by omega) (by decide) dX11_minute_58 ?_
    refine lv_ldc2 (own := RX11) (index := 29) (v := (2 : Int64)) hx hb hown (hts (.constantLong RX11 29 (2)) (List.mem_of_getElem? (i := 4) rfl)) dX11_minute_59 ?_
    refine w_lne (tgt := 107) hx hb dX11_minute_62 dX11_minute_63 (by decide) (fun c1 => ?_) (fun c1 => ?_)
    · have c1 : ¬ ((x1 86) = (2 : Int64)) := c1
      exact kk x1 ((Eq.trans (if_neg c1) (rfl)).symm) mOe.r s.heap locs hP hD hS ls (lv_sub hl [0, 1, 2, 3, 4, 5] rfl)
    · have c1 : (x1 86) = (2 : Int64) := c1
      refine lv_aload_n hx hb dX11_minute_66 rfl (lv_at hl 5 rfl) ?_
      refine va_get (D := D) (ci := 11) (v := .ref b2) (C := RX11) (T := TX11) (N := 10) hx hb hts hinX11 hown hQ.1 hP 0 rfl rfl 0 (by decide) (hts (.fieldLink RX11 7 "HeatPumpPlantModel" "row" "[J") (List.mem_of_getElem? (i := 1) rfl)) (fun _ h9 => h9) rfl dX11_minute_67 ?_
      refine lv_bipush (v := (91 : Int32)) hx hb dX11_minute_70 (by decide) ?_
      refine w_lald (f := x1) (j := 91) hx hb hQ.1 hP 1 1 rfl rfl (rfl : (91 : Int32) = nI 91) (by omega) (by decide) dX11_minute_72 ?_
      refine lv_aload_n hx hb dX11_minute_73 rfl (lv_at hl 5 rfl) ?_
      refine va_get (D := D) (ci := 11) (v := .ref b2) (C := RX11) (T := TX11) (N := 10) hx hb hts hinX11 hown hQ.1 hP 0 rfl rfl 0 (by decide) (hts (.fieldLink RX11 7 "HeatPumpPlantModel" "row" "[J") (List.mem_of_getElem? (i := 1) rfl)) (fun _ h9 => h9) rfl dX11_minute_74 ?_
      refine lv_bipush (v := (90 : Int32)) hx hb dX11_minute_77 (by decide) ?_
      refine w_lald (f := x1) (j := 90) hx hb hQ.1 hP 1 1 rfl rfl (rfl : (90 : Int32) = nI 90) (by omega) (by decide) dX11_minute_79 ?_
      refine lv_lsub hx hb dX11_minute_80 ?_
      refine lv_aload_n hx hb dX11_minute_81 rfl (lv_at hl 5 rfl) ?_
      refine lv_bipush (v := (11 : Int32)) hx hb dX11_minute_82 (by decide) ?_
      have hPc : va_P D vwCl (wF [gN b0 b2 b1 x0, gR cL b2 x1]) s.heap := hP.sub [0, 1] rfl
      refine c_Rl (va_runV (As := [.int (nI 11)]) (rest := [.long ((x1 91) - (x1 90))]) ⟨hx, hb, hml, hown, hts⟩ (m11_set1 l D cI cL cP b0 b1 b2 x0 x1 11 (by omega) s.heap) (cwV 1 hts gX11_minute_X11_set1 rfl rfl rfl (by decide +kernel) ⟨Nat.le_of_ble_eq_true rfl, Nat.le_of_ble_eq_true rfl⟩) (preR_V (q := (RX11, TX11, 10)) (q0 := 0) hQ hPc rfl rfl) rfl rfl hl.1 rfl (lv_room (Nat.le_of_ble_eq_true rfl)) dX11_minute_84 ⟨Nat.le_of_ble_eq_true rfl, Nat.le_of_ble_eq_true rfl⟩) hS (fun locs hS => ?_)
      refine w_llt (tgt := 107) hx hb dX11_minute_87 dX11_minute_88 (by decide) (fun c2 => ?_) (fun c2 => ?_)
      · have c2 : ((x1 91) - (x1 90)) < (F11_set1 x1 11) := c2
        exact kk x1 ((Eq.trans (if_pos c1) (Eq.trans (if_pos c2) (rfl))).symm) mOe.r s.heap locs hP hD hS ls (lv_sub hl [0, 1, 2, 3, 4, 5] rfl)
      · have c2 : ¬ (((x1 91) - (x1 90)) < (F11_set1 x1 11)) := c2
        refine lv_aload_n hx hb dX11_minute_91 rfl (lv_at hl 5 rfl) ?_
        refine va_get (D := D) (ci := 11) (v := .ref b2) (C := RX11) (T := TX11) (N := 10) hx hb hts hinX11 hown hQ.1 hP 0 rfl rfl 0 (by decide) (hts (.fieldLink RX11 7 "HeatPumpPlantModel" "row" "[J") (List.mem_of_getElem? (i := 1) rfl)) (fun _ h9 => h9) rfl dX11_minute_92 ?_
        refine lv_bipush (v := (86 : Int32)) hx hb dX11_minute_95 (by decide) ?_
        refine lv_lconst (v := (1 : Int64)) hx hb dX11_minute_97 rfl ?_
        refine w_last (f := x1) (j := 86) hx hb hQ.1 hP hD hS 1 1 rfl rfl (rfl : (86 : Int32) = nI 86) (by omega) (by decide) dX11_minute_98 (fun H locs hP hD hS => ?_)
        have hP : va_P D vwCl (wF [gN b0 b2 b1 x0, gR cL b2 (vp_updL x1 86 (1 : Int64))]) H := hP
        have hD : va_D A (wF [gN b0 b2 b1 x0, gR cL b2 (vp_updL x1 86 (1 : Int64))]) := hD
        refine lv_aload_n hx hb dX11_minute_99 rfl (lv_at hl 5 rfl) ?_
        refine va_get (D := D) (ci := 11) (v := .ref b2) (C := RX11) (T := TX11) (N := 10) hx hb hts hinX11 hown hQ.1 hP 0 rfl rfl 0 (by decide) (hts (.fieldLink RX11 7 "HeatPumpPlantModel" "row" "[J") (List.mem_of_getElem? (i := 1) rfl)) (fun _ h9 => h9) rfl dX11_minute_100 ?_
        refine lv_bipush (v := (89 : Int32)) hx hb dX11_minute_103 (by decide) ?_
        refine lv_lconst (v := (0 : Int64)) hx hb dX11_minute_105 rfl ?_
        refine w_last (f := (vp_updL x1 86 (1 : Int64))) (j := 89) hx hb hQ.1 hP hD hS 1 1 rfl rfl (rfl : (89 : Int32) = nI 89) (by omega) (by decide) dX11_minute_106 (fun H locs hP hD hS => ?_)
        have hP : va_P D vwCl (wF [gN b0 b2 b1 x0, gR cL b2 (vp_updL (vp_updL x1 86 (1 : Int64)) 89 (0 : Int64))]) H := hP
        have hD : va_D A (wF [gN b0 b2 b1 x0, gR cL b2 (vp_updL (vp_updL x1 86 (1 : Int64)) 89 (0 : Int64))]) := hD
        exact kk (vp_updL (vp_updL x1 86 (1 : Int64)) 89 (0 : Int64)) ((Eq.trans (if_pos c1) (Eq.trans (if_neg c2) (rfl))).symm) (mOe.u (mOe.u mOe.r (by omega) _) (by omega) _) H locs hP hD hS ls (lv_sub hl [0, 1, 2, 3, 4, 5] rfl)
  intro z3 hz3 hfr_z3 H locs hP hD hS ls hl
  refine lv_aload_n hx hb dX11_minute_107 rfl (lv_at hl 5 rfl) ?_
  refine lv_aload_n hx hb dX11_minute_108 rfl (lv_at hl 5 rfl) ?_
  refine va_get (D := D) (ci := 11) (v := .ref b2) (C := RX11) (T := TX11) (N := 10) hx hb hts hinX11 hown hQ.1 hP 0 rfl rfl 0 (by decide) (hts (.fieldLink RX11 7 "HeatPumpPlantModel" "row" "[J") (List.mem_of_getElem? (i := 1) rfl)) (fun _ h9 => h9) rfl dX11_minute_109 ?_
  refine lv_bipush (v := (86 : Int32)) hx hb dX11_minute_112 (by decide) ?_
  refine w_lald (f := z3) (j := 86) hx hb hQ.1 hP 1 1 rfl rfl (rfl : (86 : Int32) = nI 86) (by omega) (by decide) dX11_minute_114 ?_
  refine lv_ldc2 (own := RX11) (index := 29) (v := (2 : Int64)) hx hb hown (hts (.constantLong RX11 29 (2)) (List.mem_of_getElem? (i := 4) rfl)) dX11_minute_115 ?_
  refine w_diaIS hS (rest := [.ref b0]) (K := (z3 86) = (2 : Int64)) 155 (0 : Int32) (if (z3 86) = (1 : Int64) then (F11_ruleOn z3 (F11_targetOf x0 x1 ((nT (x1 91) / 60 % 24)))) else (F11_ruleOff x0 z3 (F11_targetOf x0 x1 ((nT (x1 91) / 60 % 24))) (x1 (41 + ((nT (x1 91) / 60 % 24)))))) (fun kt kf => ?_) (fun locs hS => ?_)
  · refine w_lne (tgt := 126) hx hb dX11_minute_118 dX11_minute_119 (by decide) (fun c5 => ?_) (fun c5 => ?_)
    · have c5 : ¬ ((z3 86) = (2 : Int64)) := c5
      refine lv_aload_n hx hb dX11_minute_126 rfl (lv_at hl 5 rfl) ?_
      refine va_get (D := D) (ci := 11) (v := .ref b2) (C := RX11) (T := TX11) (N := 10) hx hb hts hinX11 hown hQ.1 hP 0 rfl rfl 0 (by decide) (hts (.fieldLink RX11 7 "HeatPumpPlantModel" "row" "[J") (List.mem_of_getElem? (i := 1) rfl)) (fun _ h9 => h9) rfl dX11_minute_127 ?_
      refine lv_bipush (v := (86 : Int32)) hx hb dX11_minute_130 (by decide) ?_
      refine w_lald (f := z3) (j := 86) hx hb hQ.1 hP 1 1 rfl rfl (rfl : (86 : Int32) = nI 86) (by omega) (by decide) dX11_minute_132 ?_
      refine lv_lconst (v := (1 : Int64)) hx hb dX11_minute_133 rfl ?_
      refine w_diaIS hS (rest := [.ref b0]) (K := (z3 86) = (1 : Int64)) 155 (F11_ruleOn z3 (F11_targetOf x0 x1 ((nT (x1 91) / 60 % 24)))) (F11_ruleOff x0 z3 (F11_targetOf x0 x1 ((nT (x1 91) / 60 % 24))) (x1 (41 + ((nT (x1 91) / 60 % 24))))) (fun kt kf => ?_) (fun locs hS => ?_)
      · refine w_lne (tgt := 147) hx hb dX11_minute_134 dX11_minute_135 (by decide) (fun c4 => ?_) (fun c4 => ?_)
        · have c4 : ¬ ((z3 86) = (1 : Int64)) := c4
          refine lv_aload_n hx hb dX11_minute_147 rfl (lv_at hl 5 rfl) ?_
          refine lv_lload hx hb dX11_minute_148 (lv_at hl 0 rfl) ?_
          refine lv_lload hx hb dX11_minute_150 (lv_at hl 2 rfl) ?_
          have hPc : va_P D vwCl (wF [gN b0 b2 b1 x0, gR cL b2 z3]) H := hP.sub [0, 1] rfl
          refine c_Ri (va_runV (As := [.long (F11_targetOf x0 x1 ((nT (x1 91) / 60 % 24))), .long (x1 (41 + ((nT (x1 91) / 60 % 24))))]) (rest := [.ref b0]) ⟨hx, hb, hml, hown, hts⟩ (m11_ruleOff l D cI cL cP b0 b1 b2 x0 z3 (F11_targetOf x0 x1 ((nT (x1 91) / 60 % 24))) (x1 (41 + ((nT (x1 91) / 60 % 24)))) (hfr_z3.n hm.2.2.1) H) (cwV 2 hts gX11_minute_X11_ruleOff rfl rfl rfl (by decide +kernel) ⟨Nat.le_of_ble_eq_true rfl, Nat.le_of_ble_eq_true rfl⟩) (preR_V (q := (RX11, TX11, 10)) (q0 := 0) hQ hPc rfl rfl) rfl rfl hl.1 rfl (lv_room (Nat.le_of_ble_eq_true rfl)) dX11_minute_152 ⟨Nat.le_of_ble_eq_true rfl, Nat.le_of_ble_eq_true rfl⟩) hS (fun locs hS => ?_)
          exact kf c4 _ hS
        · have c4 : (z3 86) = (1 : Int64) := c4
          refine lv_aload_n hx hb dX11_minute_138 rfl (lv_at hl 5 rfl) ?_
          refine lv_lload hx hb dX11_minute_139 (lv_at hl 0 rfl) ?_
          have hPc : va_P D vwCl (wF [gN b0 b2 b1 x0, gR cL b2 z3]) H := hP.sub [0, 1] rfl
          refine c_Ri (va_runV (As := [.long (F11_targetOf x0 x1 ((nT (x1 91) / 60 % 24)))]) (rest := [.ref b0]) ⟨hx, hb, hml, hown, hts⟩ (m11_ruleOn l D cI cL cP b0 b1 b2 x0 z3 (F11_targetOf x0 x1 ((nT (x1 91) / 60 % 24))) (hfr_z3.n hm.2.2.1) H) (cwV 1 hts gX11_minute_X11_ruleOn rfl rfl rfl (by decide +kernel) ⟨Nat.le_of_ble_eq_true rfl, Nat.le_of_ble_eq_true rfl⟩) (preR_V (q := (RX11, TX11, 10)) (q0 := 0) hQ hPc rfl rfl) rfl rfl hl.1 rfl (lv_room (Nat.le_of_ble_eq_true rfl)) dX11_minute_141 ⟨Nat.le_of_ble_eq_true rfl, Nat.le_of_ble_eq_true rfl⟩) hS (fun locs hS => ?_)
          refine lv_goto (tgt := 155) hx hb dX11_minute_144 (by decide) ?_
          exact kt c4 _ hS
      exact kf c5 _ hS
    · have c5 : (z3 86) = (2 : Int64) := c5
      refine lv_iconst (v := (0 : Int32)) hx hb dX11_minute_122 (by decide) ?_
      refine lv_goto (tgt := 155) hx hb dX11_minute_123 (by decide) ?_
      exact kt c5 _ hS
  refine w_topn ((F11_rule x0 z3 (F11_targetOf x0 x1 (nT (x1 91) / 60 % 24)) (x1 (41 + (nT (x1 91) / 60 % 24)))).toNatClampNeg) (w_nat (rul_n x0 z3 (F11_targetOf x0 x1 (nT (x1 91) / 60 % 24)) (x1 (41 + (nT (x1 91) / 60 % 24))))) ?_
  have hPc : va_P D vwCl (wF [gN b0 b2 b1 x0, gR cL b2 z3]) H := w_psub hP [0, 1] rfl
  have hDc : va_D A (wF [gN b0 b2 b1 x0, gR cL b2 z3]) := w_gsub hD [0, 1] rfl rfl
  refine c_Mv (F := F11_decides z3 ((F11_rule x0 z3 (F11_targetOf x0 x1 (nT (x1 91) / 60 % 24)) (x1 (41 + (nT (x1 91) / 60 % 24)))).toNatClampNeg)) (G1 := (fun w => [gN b0 b2 b1 x0, gR cL b2 w])) (Gr := []) (Gs' := fun z6 => [gN b0 b2 b1 x0, gR cL b2 z6]) (va_runV (As := [.int (nI ((F11_rule x0 z3 (F11_targetOf x0 x1 (nT (x1 91) / 60 % 24)) (x1 (41 + (nT (x1 91) / 60 % 24)))).toNatClampNeg))]) (rest := []) ⟨hx, hb, hml, hown, hts⟩ (m11_decides l D cI cL cP b0 b1 b2 x0 z3 ((F11_rule x0 z3 (F11_targetOf x0 x1 (nT (x1 91) / 60 % 24)) (x1 (41 + (nT (x1 91) / 60 % 24)))).toNatClampNeg) (rul_l _ _ _ _) (by rw [hfr_z3 91 (by omega)]; exact hm.2.2.2) H.size) (cwV 1 hts gX11_minute_X11_decides rfl rfl rfl (by decide +kernel) ⟨Nat.le_of_ble_eq_true rfl, Nat.le_of_ble_eq_true rfl⟩) (preM_V (q := (RX11, TX11, 10)) (q0 := 0) hQ hPc hDc rfl rfl) rfl rfl hl.1 rfl (lv_room (Nat.le_of_ble_eq_true rfl)) dX11_minute_155 ⟨Nat.le_of_ble_eq_true rfl, Nat.le_of_ble_eq_true rfl⟩) hS hA hP hD [0, 1] [] [0, 1] rfl rfl rfl rfl rfl (fun _ => rfl) (fun z6 H locs hz6 hP hD hS => ?_)
  have hP : va_P D vwCl (wF [gN b0 b2 b1 x0, gR cL b2 z6]) H := hP
  have hD : va_D A (wF [gN b0 b2 b1 x0, gR cL b2 z6]) := hD
  have hfr_z6 : mOe x1 z6 := by rw [hz6]; exact hfr_z3.t (dec_o _ (rul_l _ _ _ _))
  refine lv_aload_n hx hb dX11_minute_158 rfl (lv_at hl 5 rfl) ?_
  refine lv_lload_n hx hb dX11_minute_159 rfl (lv_at hl 3 rfl) ?_
  refine lv_lload hx hb dX11_minute_160 (lv_at hl 2 rfl) ?_
  have hPc : va_P D vwCl (wF [gN b0 b2 b1 x0, gR cL b2 z6]) H := w_psub hP [0, 1] rfl
  have hDc : va_D A (wF [gN b0 b2 b1 x0, gR cL b2 z6]) := w_gsub hD [0, 1] rfl rfl
  refine c_Mv (F := F11_produces x0 z6 (x1 (17 + ((nT (x1 91) / 60 % 24)))) (x1 (41 + ((nT (x1 91) / 60 % 24))))) (G1 := (fun w => [gN b0 b2 b1 x0, gR cL b2 w])) (Gr := []) (Gs' := fun z7 => [gN b0 b2 b1 x0, gR cL b2 z7]) (va_runV (As := [.long (x1 (17 + ((nT (x1 91) / 60 % 24)))), .long (x1 (41 + ((nT (x1 91) / 60 % 24))))]) (rest := []) ⟨hx, hb, hml, hown, hts⟩ (m11_produces l D cI cL cP b0 b1 b2 x0 z6 (x1 (17 + ((nT (x1 91) / 60 % 24)))) (x1 (41 + ((nT (x1 91) / 60 % 24)))) (hfr_z6.n hm.2.2.1) ((hm.2.1 _ (by omega)).1) ((hm.2.1 _ (by omega)).2) H.size) (cwV 2 hts gX11_minute_X11_produces rfl rfl rfl (by decide +kernel) ⟨Nat.le_of_ble_eq_true rfl, Nat.le_of_ble_eq_true rfl⟩) (preM_V (q := (RX11, TX11, 10)) (q0 := 0) hQ hPc hDc rfl rfl) rfl rfl hl.1 rfl (lv_room (Nat.le_of_ble_eq_true rfl)) dX11_minute_162 ⟨Nat.le_of_ble_eq_true rfl, Nat.le_of_ble_eq_true rfl⟩) hS hA hP hD [0, 1] [] [0, 1] rfl rfl rfl rfl rfl (fun _ => rfl) (fun z7 H locs hz7 hP hD hS => ?_)
  have hP : va_P D vwCl (wF [gN b0 b2 b1 x0, gR cL b2 z7]) H := hP
  have hD : va_D A (wF [gN b0 b2 b1 x0, gR cL b2 z7]) := hD
  have hfr_z7 : mOe x1 z7 := by rw [hz7]; exact hfr_z6.t (pro_o _ _ _ _)
  refine lv_aload_n hx hb dX11_minute_165 rfl (lv_at hl 5 rfl) ?_
  refine lv_lload hx hb dX11_minute_166 (lv_at hl 1 rfl) ?_
  have hPc : va_P D vwCl (wF [gN b0 b2 b1 x0, gR cL b2 z7]) H := w_psub hP [0, 1] rfl
  have hDc : va_D A (wF [gN b0 b2 b1 x0, gR cL b2 z7]) := w_gsub hD [0, 1] rfl rfl
  refine c_Mv (F := F11_draws z7 (F11_demandOf x1 ((nT (x1 91) / 60 % 24)))) (G1 := (fun w => [gN b0 b2 b1 x0, gR cL b2 w])) (Gr := []) (Gs' := fun z8 => [gN b0 b2 b1 x0, gR cL b2 z8]) (va_runV (As := [.long (F11_demandOf x1 ((nT (x1 91) / 60 % 24)))]) (rest := []) ⟨hx, hb, hml, hown, hts⟩ (m11_draws l D cI cL cP b0 b1 b2 x0 z7 (F11_demandOf x1 ((nT (x1 91) / 60 % 24))) H.size) (cwV 1 hts gX11_minute_X11_draws rfl rfl rfl (by decide +kernel) ⟨Nat.le_of_ble_eq_true rfl, Nat.le_of_ble_eq_true rfl⟩) (preM_V (q := (RX11, TX11, 10)) (q0 := 0) hQ hPc hDc rfl rfl) rfl rfl hl.1 rfl (lv_room (Nat.le_of_ble_eq_true rfl)) dX11_minute_168 ⟨Nat.le_of_ble_eq_true rfl, Nat.le_of_ble_eq_true rfl⟩) hS hA hP hD [0, 1] [] [0, 1] rfl rfl rfl rfl rfl (fun _ => rfl) (fun z8 H locs hz8 hP hD hS => ?_)
  have hP : va_P D vwCl (wF [gN b0 b2 b1 x0, gR cL b2 z8]) H := hP
  have hD : va_D A (wF [gN b0 b2 b1 x0, gR cL b2 z8]) := hD
  have hfr_z8 : mOe x1 z8 := by rw [hz8]; exact hfr_z7.t (draws_o _ _)
  refine lv_aload_n hx hb dX11_minute_171 rfl (lv_at hl 5 rfl) ?_
  have hPc : va_P D vwCl (wF [gN b0 b2 b1 x0, gR cL b2 z8]) H := w_psub hP [0, 1] rfl
  have hDc : va_D A (wF [gN b0 b2 b1 x0, gR cL b2 z8]) := w_gsub hD [0, 1] rfl rfl
  refine c_Mv (F := F11_settles x0 z8) (G1 := (fun w => [gN b0 b2 b1 x0, gR cL b2 w])) (Gr := []) (Gs' := fun z9 => [gN b0 b2 b1 x0, gR cL b2 z9]) (va_runV (As := []) (rest := []) ⟨hx, hb, hml, hown, hts⟩ (m11_settles l D cI cL cP b0 b1 b2 x0 z8 (hfr_z8.n hm.2.2.1) H.size) (cwV 0 hts gX11_minute_X11_settles rfl rfl rfl (by decide +kernel) ⟨Nat.le_of_ble_eq_true rfl, Nat.le_of_ble_eq_true rfl⟩) (preM_V (q := (RX11, TX11, 10)) (q0 := 0) hQ hPc hDc rfl rfl) rfl rfl hl.1 rfl (lv_room (Nat.le_of_ble_eq_true rfl)) dX11_minute_172 ⟨Nat.le_of_ble_eq_true rfl, Nat.le_of_ble_eq_true rfl⟩) hS hA hP hD [0, 1] [] [0, 1] rfl rfl rfl rfl rfl (fun _ => rfl) (fun z9 H locs hz9 hP hD hS => ?_)
  have hP : va_P D vwCl (wF [gN b0 b2 b1 x0, gR cL b2 z9]) H := hP
  have hD : va_D A (wF [gN b0 b2 b1 x0, gR cL b2 z9]) := hD
  refine lv_aload_n hx hb dX11_minute_175 rfl (lv_at hl 5 rfl) ?_
  refine va_get (D := D) (ci := 11) (v := .ref b2) (C := RX11) (T := TX11) (N := 10) hx hb hts hinX11 hown hQ.1 hP 0 rfl rfl 0 (by decide) (hts (.fieldLink RX11 7 "HeatPumpPlantModel" "row" "[J") (List.mem_of_getElem? (i := 1) rfl)) (fun _ h9 => h9) rfl dX11_minute_176 ?_
  refine lv_aload_n hx hb dX11_minute_179 rfl (lv_at hl 5 rfl) ?_
  refine va_get (D := D) (ci := 11) (v := .ref b2) (C := RX11) (T := TX11) (N := 10) hx hb hts hinX11 hown hQ.1 hP 0 rfl rfl 0 (by decide) (hts (.fieldLink RX11 7 "HeatPumpPlantModel" "row" "[J") (List.mem_of_getElem? (i := 1) rfl)) (fun _ h9 => h9) rfl dX11_minute_180 ?_
  refine lv_bipush (v := (86 : Int32)) hx hb dX11_minute_183 (by decide) ?_
  refine w_lald (f := z9) (j := 86) hx hb hQ.1 hP 1 1 rfl rfl (rfl : (86 : Int32) = nI 86) (by omega) (by decide) dX11_minute_185 ?_
  refine lv_lconst (v := (0 : Int64)) hx hb dX11_minute_186 rfl ?_
  refine w_lne (tgt := 196) hx hb dX11_minute_187 dX11_minute_188 (by decide) (fun c10 => ?_) (fun c10 => ?_)
  · have c10 : ¬ ((z9 86) = (0 : Int64)) := c10
    refine lv_bipush (v := (87 : Int32)) hx hb dX11_minute_196 (by decide) ?_
    refine lv_dup2_11 hx hb dX11_minute_198 rfl rfl ?_
    refine w_lald (f := z9) (j := 87) hx hb hQ.1 hP 1 1 rfl rfl (rfl : (87 : Int32) = nI 87) (by omega) (by decide) dX11_minute_199 ?_
    refine lv_lconst (v := (1 : Int64)) hx hb dX11_minute_200 rfl ?_
    refine lv_ladd hx hb dX11_minute_201 ?_
    refine w_last (f := z9) (j := 87) hx hb hQ.1 hP hD hS 1 1 rfl rfl (rfl : (87 : Int32) = nI 87) (by omega) (by decide) dX11_minute_202 (fun H locs hP hD hS => ?_)
    have hP : va_P D vwCl (wF [gN b0 b2 b1 x0, gR cL b2 (vp_updL z9 87 ((z9 87) + (1 : Int64)))]) H := hP
    have hD : va_D A (wF [gN b0 b2 b1 x0, gR cL b2 (vp_updL z9 87 ((z9 87) + (1 : Int64)))]) := hD
    refine lv_aload_n hx hb dX11_minute_203 rfl (lv_at hl 5 rfl) ?_
    refine va_get (D := D) (ci := 11) (v := .ref b2) (C := RX11) (T := TX11) (N := 10) hx hb hts hinX11 hown hQ.1 hP 0 rfl rfl 0 (by decide) (hts (.fieldLink RX11 7 "HeatPumpPlantModel" "row" "[J") (List.mem_of_getElem? (i := 1) rfl)) (fun _ h9 => h9) rfl dX11_minute_204 ?_
    refine lv_bipush (v := (91 : Int32)) hx hb dX11_minute_207 (by decide) ?_
    refine lv_dup2_11 hx hb dX11_minute_209 rfl rfl ?_
    refine w_lald (f := (vp_updL z9 87 ((z9 87) + (1 : Int64)))) (j := 91) hx hb hQ.1 hP 1 1 rfl rfl (rfl : (91 : Int32) = nI 91) (by omega) (by decide) dX11_minute_210 ?_
    refine w_topL (show ((vp_updL z9 87 ((z9 87) + (1 : Int64))) 91) = (z9 91) from (w_rd (by omega) rfl)) ?_
    refine lv_lconst (v := (1 : Int64)) hx hb dX11_minute_211 rfl ?_
    refine lv_ladd hx hb dX11_minute_212 ?_
    refine w_last (f := (vp_updL z9 87 ((z9 87) + (1 : Int64)))) (j := 91) hx hb hQ.1 hP hD hS 1 1 rfl rfl (rfl : (91 : Int32) = nI 91) (by omega) (by decide) dX11_minute_213 (fun H locs hP hD hS => ?_)
    have hP : va_P D vwCl (wF [gN b0 b2 b1 x0, gR cL b2 (vp_updL (vp_updL z9 87 ((z9 87) + (1 : Int64))) 91 ((z9 91) + (1 : Int64)))]) H := hP
    have hD : va_D A (wF [gN b0 b2 b1 x0, gR cL b2 (vp_updL (vp_updL z9 87 ((z9 87) + (1 : Int64))) 91 ((z9 91) + (1 : Int64)))]) := hD
    exact W.vret hx hb hr (fun t ht hW => ⟨⟨(vp_updL (vp_updL z9 87 ((z9 87) + (1 : Int64))) 91 ((z9 91) + (1 : Int64))), rfl, ((Eq.trans (congrArg (K11_minute_1 x0 x1) hz3.symm) (Eq.trans (congrArg (K11_minute_2 x0 x1 z3) hz6.symm) (Eq.trans (congrArg (K11_minute_3 x0 x1 z3 z6) hz7.symm) (Eq.trans (congrArg (K11_minute_4 x0 x1 z3 z6 z7) hz8.symm) (Eq.trans (congrArg (K11_minute_5 x0 x1 z3 z6 z7 z8) hz9.symm) (Eq.trans (if_neg c10) (rfl))))))).symm), by rw [ht]; exact hP, hD⟩, hS.F ht⟩) hS.2.2 dX11_minute_214
  · have c10 : (z9 86) = (0 : Int64) := c10
    refine lv_bipush (v := (88 : Int32)) hx hb dX11_minute_191 (by decide) ?_
    refine lv_goto (tgt := 198) hx hb dX11_minute_193 (by decide) ?_
    refine lv_dup2_11 hx hb dX11_minute_198 rfl rfl ?_
    refine w_lald (f := z9) (j := 88) hx hb hQ.1 hP 1 1 rfl rfl (rfl : (88 : Int32) = nI 88) (by omega) (by decide) dX11_minute_199 ?_
    refine lv_lconst (v := (1 : Int64)) hx hb dX11_minute_200 rfl ?_
    refine lv_ladd hx hb dX11_minute_201 ?_
    refine w_last (f := z9) (j := 88) hx hb hQ.1 hP hD hS 1 1 rfl rfl (rfl : (88 : Int32) = nI 88) (by omega) (by decide) dX11_minute_202 (fun H locs hP hD hS => ?_)
    have hP : va_P D vwCl (wF [gN b0 b2 b1 x0, gR cL b2 (vp_updL z9 88 ((z9 88) + (1 : Int64)))]) H := hP
    have hD : va_D A (wF [gN b0 b2 b1 x0, gR cL b2 (vp_updL z9 88 ((z9 88) + (1 : Int64)))]) := hD
    refine lv_aload_n hx hb dX11_minute_203 rfl (lv_at hl 5 rfl) ?_
    refine va_get (D := D) (ci := 11) (v := .ref b2) (C := RX11) (T := TX11) (N := 10) hx hb hts hinX11 hown hQ.1 hP 0 rfl rfl 0 (by decide) (hts (.fieldLink RX11 7 "HeatPumpPlantModel" "row" "[J") (List.mem_of_getElem? (i := 1) rfl)) (fun _ h9 => h9) rfl dX11_minute_204 ?_
    refine lv_bipush (v := (91 : Int32)) hx hb dX11_minute_207 (by decide) ?_
    refine lv_dup2_11 hx hb dX11_minute_209 rfl rfl ?_
    refine w_lald (f := (vp_updL z9 88 ((z9 88) + (1 : Int64)))) (j := 91) hx hb hQ.1 hP 1 1 rfl rfl (rfl : (91 : Int32) = nI 91) (by omega) (by decide) dX11_minute_210 ?_
    refine w_topL (show ((vp_updL z9 88 ((z9 88) + (1 : Int64))) 91) = (z9 91) from (w_rd (by omega) rfl)) ?_
    refine lv_lconst (v := (1 : Int64)) hx hb dX11_minute_211 rfl ?_
    refine lv_ladd hx hb dX11_minute_212 ?_
    refine w_last (f := (vp_updL z9 88 ((z9 88) + (1 : Int64)))) (j := 91) hx hb hQ.1 hP hD hS 1 1 rfl rfl (rfl : (91 : Int32) = nI 91) (by omega) (by decide) dX11_minute_213 (fun H locs hP hD hS => ?_)
    have hP : va_P D vwCl (wF [gN b0 b2 b1 x0, gR cL b2 (vp_updL (vp_updL z9 88 ((z9 88) + (1 : Int64))) 91 ((z9 91) + (1 : Int64)))]) H := hP
    have hD : va_D A (wF [gN b0 b2 b1 x0, gR cL b2 (vp_updL (vp_updL z9 88 ((z9 88) + (1 : Int64))) 91 ((z9 91) + (1 : Int64)))]) := hD
    exact W.vret hx hb hr (fun t ht hW => ⟨⟨(vp_updL (vp_updL z9 88 ((z9 88) + (1 : Int64))) 91 ((z9 91) + (1 : Int64))), rfl, ((Eq.trans (congrArg (K11_minute_1 x0 x1) hz3.symm) (Eq.trans (congrArg (K11_minute_2 x0 x1 z3) hz6.symm) (Eq.trans (congrArg (K11_minute_3 x0 x1 z3 z6) hz7.symm) (Eq.trans (congrArg (K11_minute_4 x0 x1 z3 z6 z7) hz8.symm) (Eq.trans (congrArg (K11_minute_5 x0 x1 z3 z6 z7 z8) hz9.symm) (Eq.trans (if_pos c10) (rfl))))))).symm), by rw [ht]; exact hP, hD⟩, hS.F ht⟩) hS.2.2 dX11_minute_214
theorem w_t1 {x : Int64} (h0 : 0 ≤ x.toInt) (h : x.toInt < 1000000) : (x + (1 : Int64)).toInt = x.toInt + 1 := by
  rw [Int64.toInt_add, show (1 : Int64).toInt = 1 from by decide]
  exact Int.bmod_eq_of_le (by omega) (by omega)
theorem min_b (x0 : MoN) (x1 : Nat → Int64) : mOe x1 (B11_minute_52 x0 x1) := mOe.ite (mOe.ite mOe.r (mOe.u (mOe.u mOe.r (by omega) _) (by omega) _)) mOe.r
theorem min_e (x0 : MoN) (x1 : Nat → Int64) : ∃ g k w, mOe x1 g ∧ (k = 87 ∨ k = 88) ∧ F11_minute x0 x1 = vp_updL (vp_updL g k w) 91 (g 91 + 1) := by
  unfold F11_minute K11_minute_1 K11_minute_2 K11_minute_3 K11_minute_4
  have h1 := min_b x0 x1
  generalize B11_minute_52 x0 x1 = z3 at h1
  have h2 := h1.t (dec_o z3 (rul_l x0 z3 (F11_targetOf x0 x1 (nT (x1 91) / 60 % 24)) (x1 (41 + (nT (x1 91) / 60 % 24)))))
  generalize F11_decides z3 _ = z6 at h2
  have h3 := h2.t (pro_o x0 z6 (x1 (17 + ((nT (x1 91) / 60 % 24)))) (x1 (41 + ((nT (x1 91) / 60 % 24)))))
  generalize F11_produces x0 z6 _ _ = z7 at h3
  have h4 := h3.t (draws_o z7 (F11_demandOf x1 ((nT (x1 91) / 60 % 24))))
  generalize F11_draws z7 _ = z8 at h4
  have h5 := h4.t (set_o x0 z8)
  generalize F11_settles x0 z8 = z9 at h5
  unfold K11_minute_5
  by_cases h : z9 86 = 0
  · rw [if_pos h]
    exact ⟨z9, 88, _, h5, Or.inr rfl, rfl⟩
  · rw [if_neg h]
    exact ⟨z9, 87, _, h5, Or.inl rfl, rfl⟩
theorem min_o (x0 : MoN) (x1 : Nat → Int64) (j : Nat) (hj : j ≤ 81 ∨ 174 ≤ j) : F11_minute x0 x1 j = x1 j := by
  obtain ⟨g, k, w, h, hk, e⟩ := min_e x0 x1
  rw [e, w_ro (by omega), w_ro (by omega), h j (by omega)]
theorem min_91 (x0 : MoN) (x1 : Nat → Int64) : F11_minute x0 x1 91 = x1 91 + 1 := by
  obtain ⟨g, k, w, h, hk, e⟩ := min_e x0 x1
  rw [e, w_rds, h 91 (by omega)]
theorem min_p (x0 : MoN) {x1 : Nat → Int64} (h : mP x1) (ht : (x1 91).toInt < 1000000) : mP (F11_minute x0 x1) ∧ (F11_minute x0 x1 91).toInt = (x1 91).toInt + 1 := by
  have e := w_t1 h.2.2.2 ht
  rw [← min_91 x0 x1] at e
  obtain ⟨a, b, c, d⟩ := h
  refine ⟨⟨?_, fun j hj => ?_, ?_, ?_⟩, e⟩
  · rw [min_o x0 x1 68 (by omega)]; exact a
  · rw [min_o x0 x1 (41 + j) (by omega)]; exact b j hj
  · rw [min_o x0 x1 81 (by omega)]; exact c
  · rw [e]; omega
