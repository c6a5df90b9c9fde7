def B11_supplyAt_36 (x0 : MoN) (x1 : (Nat → Int64)) (p1 : Int64) (i : Nat) (b : Int32) (a : Int32) : Int32 := (if p1 < (x1 (69 + (2 * i))) then b else (if b < (0 : Int32) then (nI i) else (if (x1 (69 + (2 * i))) ≤ (x1 ((69 : Int32) + ((2 : Int32) * b)).toNatClampNeg) then b else (nI i))))
def B11_supplyAt_71 (x0 : MoN) (x1 : (Nat → Int64)) (p1 : Int64) (i : Nat) (b : Int32) (a : Int32) (z5 : Int32) : Int32 := (if (x1 (69 + (2 * i))) ≤ p1 then a else (if a < (0 : Int32) then (nI i) else (if (x1 ((69 : Int32) + ((2 : Int32) * a)).toNatClampNeg) ≤ (x1 (69 + (2 * i))) then a else (nI i))))
def K11_supplyAt_2 (x0 : MoN) (x1 : (Nat → Int64)) (p1 : Int64) (i : Nat) (b : Int32) (a : Int32) (z5 : Int32) (rec8 : Nat → Int32 → Int32 → Nat × Int32 × Int32) (z9 : Int32) : Nat × Int32 × Int32 := (rec8 (i + 1) z5 z9)
def K11_supplyAt_1 (x0 : MoN) (x1 : (Nat → Int64)) (p1 : Int64) (i : Nat) (b : Int32) (a : Int32) (rec8 : Nat → Int32 → Int32 → Nat × Int32 × Int32) (z5 : Int32) : Nat × Int32 × Int32 := (K11_supplyAt_2 x0 x1 p1 i b a z5 rec8 (B11_supplyAt_71 x0 x1 p1 i b a z5))
def L11_supplyAt_8 (x0 : MoN) (x1 : (Nat → Int64)) (p1 : Int64) : Nat → Nat → Int32 → Int32 → Nat × Int32 × Int32
  | 0, _, _, _ => default
  | fu + 1, i, b, a => (if (x1 68) ≤ (nI i).toInt64 then (i, b, a) else (K11_supplyAt_1 x0 x1 p1 i b a (L11_supplyAt_8 x0 x1 p1 fu) (B11_supplyAt_36 x0 x1 p1 i b a)))
def K11_supplyAt_3 (x0 : MoN) (x1 : (Nat → Int64)) (p1 : Int64) (z10 : Nat × Int32 × Int32) : Int64 := (if z10.2.1 < (0 : Int32) then (x1 (((69 : Int32) + ((2 : Int32) * z10.2.2)) + (1 : Int32)).toNatClampNeg) else (if (0 : Int32) ≤ z10.2.2 then ((x1 (((69 : Int32) + ((2 : Int32) * z10.2.1)) + (1 : Int32)).toNatClampNeg) + (F11_div (((x1 (((69 : Int32) + ((2 : Int32) * z10.2.2)) + (1 : Int32)).toNatClampNeg) - (x1 (((69 : Int32) + ((2 : Int32) * z10.2.1)) + (1 : Int32)).toNatClampNeg)) * (p1 - (x1 ((69 : Int32) + ((2 : Int32) * z10.2.1)).toNatClampNeg))) ((x1 ((69 : Int32) + ((2 : Int32) * z10.2.2)).toNatClampNeg) - (x1 ((69 : Int32) + ((2 : Int32) * z10.2.1)).toNatClampNeg)))) else (x1 (((69 : Int32) + ((2 : Int32) * z10.2.1)) + (1 : Int32)).toNatClampNeg)))
def F11_supplyAt (x0 : MoN) (x1 : (Nat → Int64)) (p1 : Int64) : Int64 := (K11_supplyAt_3 x0 x1 p1 (L11_supplyAt_8 x0 x1 p1 7 0 (-1 : Int32) (-1 : Int32)))
set_option maxHeartbeats 4000000 in
set_option maxRecDepth 100000 in
theorem m11_supplyAt (l : Launch) (D : va_G) (cI cL cP : ClassId) (b0 : Nat) (b1 : Nat) (b2 : Nat) (x0 : MoN) (x1 : (Nat → Int64)) (p1 : Int64) (hc : (x1 68).toInt ≤ 6) (hc1 : 1 ≤ (x1 68).toInt) (H0 : Heap) : Met l yX11_supplyAt wsX11_supplyAt ({ frames := 1, cells := 0, slots := 0, locals := 25 }) (va_Pc [.ref b0, .long p1] (pR D cI cL cP H0 (wF [gN b0 b2 b1 x0, gR cL b2 x1]))) (va_Ql (fun (r : Int64) (_ : Unit) => r = F11_supplyAt x0 x1 p1) (qE H0) nF) 0 0 nF := by
  refine Met.ofW (cc := cX11_supplyAt) (maxL := 13) (ret := (some .long)) (by decide) rfl ?_
  intro p e s m args below meth c s₁ B hml hv
  obtain ⟨rfl, rfl, hP, hQ⟩ := hv
  have hx := B.exec
  have hb := B.bytes
  have hr := B.returns
  have hts := atoms_spec (ws := wsX11_supplyAt) B.pre
  have hown : s.vm.findClass RX11 = some m.cls := findClass_of_methodNamed B.named
  have hlocks := B.notSynchronized
  have hS : va_S nF s.heap s.heap [] := va_S.rf
  have hl := lv_entry ([.ref b0, .long p1]) (n := 13) (Nat.le_of_ble_eq_true rfl)
  rw [lg_entry_eq]
  generalize (lg_sl ([.ref b0, .long p1]) ++ List.replicate (13 - (lg_sl ([.ref b0, .long p1])).length) Slot.unset).toArray = ls at hl ⊢
  have hl : lv_has ls 13 [(0, .ref b0), (1, .long p1)] := hl
  have hinX11 : ∀ w ∈ wsX110, w ∈ wsX11_supplyAt := fun _ h => List.mem_cons_of_mem _ (List.mem_append_right _ h)
  refine lv_iconst (v := (-1 : Int32)) hx hb dX11_supplyAt_0 (by decide) ?_
  refine lv_istore_n (lv' := [(3, .int (-1 : Int32)), (0, .ref b0), (1, .long p1)]) hx hb dX11_supplyAt_1 rfl hl (by decide) rfl (fun ls hl => ?_)
  refine lv_iconst (v := (-1 : Int32)) hx hb dX11_supplyAt_2 (by decide) ?_
  refine lv_istore (lv' := [(4, .int (-1 : Int32)), (3, .int (-1 : Int32)), (0, .ref b0), (1, .long p1)]) hx hb dX11_supplyAt_3 hl (by decide) rfl (fun ls hl => ?_)
  refine lv_iconst (v := (0 : Int32)) hx hb dX11_supplyAt_5 (by decide) ?_
  refine lv_istore (lv' := [(5, .int (0 : Int32)), (4, .int (-1 : Int32)), (3, .int (-1 : Int32)), (0, .ref b0), (1, .long p1)]) hx hb dX11_supplyAt_6 hl (by decide) rfl (fun ls hl => ?_)
  have loop8 : ∀ (fu : Nat) (i : Nat) (b : Int32) (a : Int32) (hi : i ≤ 6) (hqb : pOk b ∧ (¬ b < 0 → pTm x1 b ≤ p1)) (hqa : pOk a ∧ (¬ a < 0 → p1 < pTm x1 a)) (hqn : 0 < i → (¬ b < 0 ∨ ¬ a < 0)) (hm : 6 - i < fu) (kk : ∀ z : Nat × Int32 × Int32, z = L11_supplyAt_8 x0 x1 p1 fu i b a → (pOk (z.2.1) ∧ (¬ (z.2.1) < 0 → pTm x1 (z.2.1) ≤ p1)) → (pOk (z.2.2) ∧ (¬ (z.2.2) < 0 → p1 < pTm x1 (z.2.2))) → (¬ (z.2.1) < 0 ∨ ¬ (z.2.2) < 0) → ∀ (locs : List Loc) (_ : va_S nF s.heap s.heap locs) (ls : Array Slot) (_ : lv_has ls 13 [(5, .int (nI z.1)), (4, .int z.2.2), (3, .int z.2.1), (0, .ref b0), (1, .long p1)]), W p l e (headSpec wsX11_supplyAt ({ frames := 1, cells := 0, slots := 0, locals := 25 })).room s m #[.ref b0, .long p1] below meth c s.heap locs 0 0 (MQ below (va_Ql (fun (r : Int64) (_ : Unit) => r = F11_supplyAt x0 x1 p1) (qE s.heap) nF) #[.ref b0, .long p1] s 0 0 nF) (F0 m 116 ls [])), ∀ (locs : List Loc) (_ : va_S nF s.heap s.heap locs) (ls : Array Slot) (_ : lv_has ls 13 [(5, .int (nI i)), (4, .int a), (3, .int b), (0, .ref b0), (1, .long p1)]), W p l e (headSpec wsX11_supplyAt ({ frames := 1, cells := 0, slots := 0, locals := 25 })).room s m #[.ref b0, .long p1] below meth c s.heap locs 0 0 (MQ below (va_Ql (fun (r : Int64) (_ : Unit) => r = F11_supplyAt x0 x1 p1) (qE s.heap) nF) #[.ref b0, .long p1] s 0 0 nF) (F0 m 8 ls []) := by
    intro fu
    induction fu with
    | zero => intro i b a hi hqb hqa hqn hm; exact absurd hm (by omega)
    | succ fu ih =>
      intro i b a hi hqb hqa hqn hm kk locs hS ls hl
      refine lv_iload hx hb dX11_supplyAt_8 (lv_at hl 0 rfl) ?_
      refine lv_i2l hx hb dX11_supplyAt_10 rfl ?_
      refine lv_aload_n hx hb dX11_supplyAt_11 rfl (lv_at hl 3 rfl) ?_
      refine va_get (D := D) (ci := 11) (v := .ref b2) (C := RX11) (T := TX11) (N := 10) hx hb hts hinX11 hown hQ.1 hP 0 rfl rfl 0 (by decide) (hts (.fieldLink RX11 7 "HeatPumpPlantModel" "row" "[J") (List.mem_of_getElem? (i := 1) rfl)) (fun _ h9 => h9) rfl dX11_supplyAt_12 ?_
      refine lv_bipush (v := (68 : Int32)) hx hb dX11_supplyAt_15 (by decide) ?_
      refine w_lald (f := x1) (j := 68) hx hb hQ.1 hP 1 1 rfl rfl (rfl : (68 : Int32) = nI 68) (by omega) (by decide) dX11_supplyAt_17 ?_
      refine w_lge (tgt := 116) hx hb dX11_supplyAt_18 dX11_supplyAt_19 (by decide) (fun c1 => ?_) (fun c1 => ?_)
      · have c1 : (x1 68) ≤ (nI i).toInt64 := c1
        exact kk (i, b, a) ((Eq.trans (if_pos c1) (rfl)).symm) hqb hqa (hqn (w_pt0 c1 hc1 (by omega))) locs hS ls (lv_sub hl [0, 1, 2, 3, 4] rfl)
      · have c1 : ¬ ((x1 68) ≤ (nI i).toInt64) := c1
        have hi6 : i < 6 := w_ptlt c1 hc (by omega)
        refine lv_aload_n hx hb dX11_supplyAt_22 rfl (lv_at hl 3 rfl) ?_
        refine va_get (D := D) (ci := 11) (v := .ref b2) (C := RX11) (T := TX11) (N := 10) hx hb hts hinX11 hown hQ.1 hP 0 rfl rfl 0 (by decide) (hts (.fieldLink RX11 7 "HeatPumpPlantModel" "row" "[J") (List.mem_of_getElem? (i := 1) rfl)) (fun _ h9 => h9) rfl dX11_supplyAt_23 ?_
        refine lv_bipush (v := (69 : Int32)) hx hb dX11_supplyAt_26 (by decide) ?_
        refine lv_iconst (v := (2 : Int32)) hx hb dX11_supplyAt_28 (by decide) ?_
        refine lv_iload hx hb dX11_supplyAt_29 (lv_at hl 0 rfl) ?_
        refine lv_imul hx hb dX11_supplyAt_31 ?_
        refine lv_iadd hx hb dX11_supplyAt_32 ?_
        refine w_lald (f := x1) (j := (69 + (2 * i))) hx hb hQ.1 hP 1 1 rfl rfl ((congr (congrArg HAdd.hAdd (show (69 : Int32) = nI 69 from (rfl : (69 : Int32) = nI 69))) (show ((2 : Int32) * (nI i)) = nI (2 * i) from ((congr (congrArg HMul.hMul (show (2 : Int32) = nI 2 from (rfl : (2 : Int32) = nI 2))) (show (nI i) = nI i from rfl)).trans (pk_mul 2 i)))).trans (nI_add 69 (2 * i))) (by omega) (by decide) dX11_supplyAt_33 ?_
        refine lv_lstore (lv' := [(6, .long (x1 (69 + (2 * i)))), (5, .int (nI i)), (4, .int a), (3, .int b), (0, .ref b0), (1, .long p1)]) hx hb dX11_supplyAt_34 hl (by decide) rfl (fun ls hl => ?_)
        refine w_suf (P := ∀ z : Int32, z = B11_supplyAt_36 x0 x1 p1 i b a → (pOk (z) ∧ (¬ (z) < 0 → pTm x1 (z) ≤ p1)) → (x1 (69 + (2 * i)) ≤ p1 → ¬ (z) < 0) → ∀ (locs : List Loc) (_ : va_S nF s.heap s.heap locs) (ls : Array Slot) (_ : lv_has ls 13 [(6, .long (x1 (69 + (2 * i)))), (5, .int (nI i)), (4, .int a), (3, .int z), (0, .ref b0), (1, .long p1)]), W p l e (headSpec wsX11_supplyAt ({ frames := 1, cells := 0, slots := 0, locals := 25 })).room s m #[.ref b0, .long p1] below meth c s.heap locs 0 0 (MQ below (va_Ql (fun (r : Int64) (_ : Unit) => r = F11_supplyAt x0 x1 p1) (qE s.heap) nF) #[.ref b0, .long p1] s 0 0 nF) (F0 m 71 ls [])) (fun kk => ?_) ?_
        · refine lv_lload hx hb dX11_supplyAt_36 (lv_at hl 0 rfl) ?_
          refine lv_lload_n hx hb dX11_supplyAt_38 rfl (lv_at hl 5 rfl) ?_
          refine w_lgt (tgt := 69) hx hb dX11_supplyAt_39 dX11_supplyAt_40 (by decide) (fun c2 => ?_) (fun c2 => ?_)
          · have c2 : p1 < (x1 (69 + (2 * i))) := c2
            refine lv_iload_n hx hb dX11_supplyAt_69 rfl (lv_at hl 3 rfl) ?_
            refine lv_istore_n (lv' := [(3, .int b), (6, .long (x1 (69 + (2 * i)))), (5, .int (nI i)), (4, .int a), (0, .ref b0), (1, .long p1)]) hx hb dX11_supplyAt_70 rfl hl (by decide) rfl (fun ls hl => ?_)
            exact kk b ((Eq.trans (if_pos c2) (rfl)).symm) (hqb) (fun h9 => absurd c2 (Int64.not_lt.mpr h9)) locs hS ls (lv_sub hl [1, 2, 3, 0, 4, 5] rfl)
          · have c2 : ¬ (p1 < (x1 (69 + (2 * i)))) := c2
            refine lv_iload_n hx hb dX11_supplyAt_43 rfl (lv_at hl 3 rfl) ?_
            refine lv_if_lt (tgt := 64) hx hb dX11_supplyAt_44 (by decide) (fun c3 => ?_) (fun c3 => ?_)
            · have c3 : b < (0 : Int32) := c3
              refine lv_iload hx hb dX11_supplyAt_64 (lv_at hl 1 rfl) ?_
              refine lv_goto (tgt := 70) hx hb dX11_supplyAt_66 (by decide) ?_
              refine lv_istore_n (lv' := [(3, .int (nI i)), (6, .long (x1 (69 + (2 * i)))), (5, .int (nI i)), (4, .int a), (0, .ref b0), (1, .long p1)]) hx hb dX11_supplyAt_70 rfl hl (by decide) rfl (fun ls hl => ?_)
              exact kk (nI i) ((Eq.trans (if_neg c2) (Eq.trans (if_pos c3) (rfl))).symm) (⟨w_pk hi6, fun _ => by rw [w_ptm x1 hi6]; exact Int64.not_lt.mp c2⟩) (fun _ => nI_pos (by omega)) locs hS ls (lv_sub hl [1, 2, 3, 0, 4, 5] rfl)
            · have c3 : ¬ (b < (0 : Int32)) := c3
              refine lv_lload hx hb dX11_supplyAt_47 (lv_at hl 0 rfl) ?_
              refine lv_aload_n hx hb dX11_supplyAt_49 rfl (lv_at hl 4 rfl) ?_
              refine va_get (D := D) (ci := 11) (v := .ref b2) (C := RX11) (T := TX11) (N := 10) hx hb hts hinX11 hown hQ.1 hP 0 rfl rfl 0 (by decide) (hts (.fieldLink RX11 7 "HeatPumpPlantModel" "row" "[J") (List.mem_of_getElem? (i := 1) rfl)) (fun _ h9 => h9) rfl dX11_supplyAt_50 ?_
              refine lv_bipush (v := (69 : Int32)) hx hb dX11_supplyAt_53 (by decide) ?_
              refine lv_iconst (v := (2 : Int32)) hx hb dX11_supplyAt_55 (by decide) ?_
              refine lv_iload_n hx hb dX11_supplyAt_56 rfl (lv_at hl 3 rfl) ?_
              refine lv_imul hx hb dX11_supplyAt_57 ?_
              refine lv_iadd hx hb dX11_supplyAt_58 ?_
              refine va_lald (f := x1) hx hb hQ.1 hP 1 1 rfl rfl (w_pin hqb.1 c3) dX11_supplyAt_59 ?_
              refine w_lle (tgt := 69) hx hb dX11_supplyAt_60 dX11_supplyAt_61 (by decide) (fun c4 => ?_) (fun c4 => ?_)
              · have c4 : (x1 (69 + (2 * i))) ≤ (x1 ((69 : Int32) + ((2 : Int32) * b)).toNatClampNeg) := c4
                refine lv_iload_n hx hb dX11_supplyAt_69 rfl (lv_at hl 3 rfl) ?_
                refine lv_istore_n (lv' := [(3, .int b), (6, .long (x1 (69 + (2 * i)))), (5, .int (nI i)), (4, .int a), (0, .ref b0), (1, .long p1)]) hx hb dX11_supplyAt_70 rfl hl (by decide) rfl (fun ls hl => ?_)
                exact kk b ((Eq.trans (if_neg c2) (Eq.trans (if_neg c3) (Eq.trans (if_pos c4) (rfl)))).symm) (hqb) (fun _ => c3) locs hS ls (lv_sub hl [1, 2, 3, 0, 4, 5] rfl)
              · have c4 : ¬ ((x1 (69 + (2 * i))) ≤ (x1 ((69 : Int32) + ((2 : Int32) * b)).toNatClampNeg)) := c4
                refine lv_iload hx hb dX11_supplyAt_64 (lv_at hl 1 rfl) ?_
                refine lv_goto (tgt := 70) hx hb dX11_supplyAt_66 (by decide) ?_
                refine lv_istore_n (lv' := [(3, .int (nI i)), (6, .long (x1 (69 + (2 * i)))), (5, .int (nI i)), (4, .int a), (0, .ref b0), (1, .long p1)]) hx hb dX11_supplyAt_70 rfl hl (by decide) rfl (fun ls hl => ?_)
                exact kk (nI i) ((Eq.trans (if_neg c2) (Eq.trans (if_neg c3) (Eq.trans (if_neg c4) (rfl)))).symm) (⟨w_pk hi6, fun _ => by rw [w_ptm x1 hi6]; exact Int64.not_lt.mp c2⟩) (fun _ => nI_pos (by omega)) locs hS ls (lv_sub hl [1, 2, 3, 0, 4, 5] rfl)
        intro z5 hz5 hb1_z5 hs1_z5 locs hS ls hl
        refine w_suf (P := ∀ z : Int32, z = B11_supplyAt_71 x0 x1 p1 i b a z5 → (pOk (z) ∧ (¬ (z) < 0 → p1 < pTm x1 (z))) → (p1 < x1 (69 + (2 * i)) → ¬ (z) < 0) → ∀ (locs : List Loc) (_ : va_S nF s.heap s.heap locs) (ls : Array Slot) (_ : lv_has ls 13 [(6, .long (x1 (69 + (2 * i)))), (5, .int (nI i)), (4, .int z), (3, .int z5), (0, .ref b0), (1, .long p1)]), W p l e (headSpec wsX11_supplyAt ({ frames := 1, cells := 0, slots := 0, locals := 25 })).room s m #[.ref b0, .long p1] below meth c s.heap locs 0 0 (MQ below (va_Ql (fun (r : Int64) (_ : Unit) => r = F11_supplyAt x0 x1 p1) (qE s.heap) nF) #[.ref b0, .long p1] s 0 0 nF) (F0 m 110 ls [])) (fun kk => ?_) ?_
        · refine lv_lload hx hb dX11_supplyAt_71 (lv_at hl 0 rfl) ?_
          refine lv_lload_n hx hb dX11_supplyAt_73 rfl (lv_at hl 5 rfl) ?_
          refine w_lle (tgt := 106) hx hb dX11_supplyAt_74 dX11_supplyAt_75 (by decide) (fun c6 => ?_) (fun c6 => ?_)
          · have c6 : (x1 (69 + (2 * i))) ≤ p1 := c6
            refine lv_iload hx hb dX11_supplyAt_106 (lv_at hl 2 rfl) ?_
            refine lv_istore (lv' := [(4, .int a), (6, .long (x1 (69 + (2 * i)))), (5, .int (nI i)), (3, .int z5), (0, .ref b0), (1, .long p1)]) hx hb dX11_supplyAt_108 hl (by decide) rfl (fun ls hl => ?_)
            exact kk a ((Eq.trans (if_pos c6) (rfl)).symm) (hqa) (fun h9 => absurd c6 (Int64.not_le.mpr h9)) locs hS ls (lv_sub hl [1, 2, 0, 3, 4, 5] rfl)
          · have c6 : ¬ ((x1 (69 + (2 * i))) ≤ p1) := c6
            refine lv_iload hx hb dX11_supplyAt_78 (lv_at hl 2 rfl) ?_
            refine lv_if_lt (tgt := 101) hx hb dX11_supplyAt_80 (by decide) (fun c7 => ?_) (fun c7 => ?_)
            · have c7 : a < (0 : Int32) := c7
              refine lv_iload hx hb dX11_supplyAt_101 (lv_at hl 1 rfl) ?_
              refine lv_goto (tgt := 108) hx hb dX11_supplyAt_103 (by decide) ?_
              refine lv_istore (lv' := [(4, .int (nI i)), (6, .long (x1 (69 + (2 * i)))), (5, .int (nI i)), (3, .int z5), (0, .ref b0), (1, .long p1)]) hx hb dX11_supplyAt_108 hl (by decide) rfl (fun ls hl => ?_)
              exact kk (nI i) ((Eq.trans (if_neg c6) (Eq.trans (if_pos c7) (rfl))).symm) (⟨w_pk hi6, fun _ => by rw [w_ptm x1 hi6]; exact Int64.not_le.mp c6⟩) (fun _ => nI_pos (by omega)) locs hS ls (lv_sub hl [1, 2, 0, 3, 4, 5] rfl)
            · have c7 : ¬ (a < (0 : Int32)) := c7
              refine lv_lload hx hb dX11_supplyAt_83 (lv_at hl 0 rfl) ?_
              refine lv_aload_n hx hb dX11_supplyAt_85 rfl (lv_at hl 4 rfl) ?_
              refine va_get (D := D) (ci := 11) (v := .ref b2) (C := RX11) (T := TX11) (N := 10) hx hb hts hinX11 hown hQ.1 hP 0 rfl rfl 0 (by decide) (hts (.fieldLink RX11 7 "HeatPumpPlantModel" "row" "[J") (List.mem_of_getElem? (i := 1) rfl)) (fun _ h9 => h9) rfl dX11_supplyAt_86 ?_
              refine lv_bipush (v := (69 : Int32)) hx hb dX11_supplyAt_89 (by decide) ?_
              refine lv_iconst (v := (2 : Int32)) hx hb dX11_supplyAt_91 (by decide) ?_
              refine lv_iload hx hb dX11_supplyAt_92 (lv_at hl 2 rfl) ?_
              refine lv_imul hx hb dX11_supplyAt_94 ?_
              refine lv_iadd hx hb dX11_supplyAt_95 ?_
              refine va_lald (f := x1) hx hb hQ.1 hP 1 1 rfl rfl (w_pin hqa.1 c7) dX11_supplyAt_96 ?_
              refine w_lge (tgt := 106) hx hb dX11_supplyAt_97 dX11_supplyAt_98 (by decide) (fun c8 => ?_) (fun c8 => ?_)
              · have c8 : (x1 ((69 : Int32) + ((2 : Int32) * a)).toNatClampNeg) ≤ (x1 (69 + (2 * i))) := c8
                refine lv_iload hx hb dX11_supplyAt_106 (lv_at hl 2 rfl) ?_
                refine lv_istore (lv' := [(4, .int a), (6, .long (x1 (69 + (2 * i)))), (5, .int (nI i)), (3, .int z5), (0, .ref b0), (1, .long p1)]) hx hb dX11_supplyAt_108 hl (by decide) rfl (fun ls hl => ?_)
                exact kk a ((Eq.trans (if_neg c6) (Eq.trans (if_neg c7) (Eq.trans (if_pos c8) (rfl)))).symm) (hqa) (fun _ => c7) locs hS ls (lv_sub hl [1, 2, 0, 3, 4, 5] rfl)
              · have c8 : ¬ ((x1 ((69 : Int32) + ((2 : Int32) * a)).toNatClampNeg) ≤ (x1 (69 + (2 * i)))) := c8
                refine lv_iload hx hb dX11_supplyAt_101 (lv_at hl 1 rfl) ?_
                refine lv_goto (tgt := 108) hx hb dX11_supplyAt_103 (by decide) ?_
                refine lv_istore (lv' := [(4, .int (nI i)), (6, .long (x1 (69 + (2 * i)))), (5, .int (nI i)), (3, .int z5), (0, .ref b0), (1, .long p1)]) hx hb dX11_supplyAt_108 hl (by decide) rfl (fun ls hl => ?_)
                exact kk (nI i) ((Eq.trans (if_neg c6) (Eq.trans (if_neg c7) (Eq.trans (if_neg c8) (rfl)))).symm) (⟨w_pk hi6, fun _ => by rw [w_ptm x1 hi6]; exact Int64.not_le.mp c6⟩) (fun _ => nI_pos (by omega)) locs hS ls (lv_sub hl [1, 2, 0, 3, 4, 5] rfl)
        intro z9 hz9 ha1_z9 hs2_z9 locs hS ls hl
        refine lv_iinc (v := (nI (i + 1))) (lv' := [(5, .int (nI (i + 1))), (6, .long (x1 (69 + (2 * i)))), (4, .int z9), (3, .int z5), (0, .ref b0), (1, .long p1)]) hx hb dX11_supplyAt_110 hl (k := 1) rfl (nI_add i 1) (by decide) rfl (fun ls hl => ?_)
        refine lv_goto (tgt := 8) hx hb dX11_supplyAt_113 (by decide) ?_
        exact ih (i + 1) z5 z9 (by omega) (hb1_z5) (ha1_z9) (fun _ => if h9 : p1 < x1 (69 + (2 * i)) then Or.inr (hs2_z9 h9) else Or.inl (hs1_z5 (Int64.not_lt.mp h9))) (by omega) (fun z hz => kk z (hz.trans ((Eq.trans (if_neg c1) (Eq.trans (congrArg (K11_supplyAt_1 x0 x1 p1 i b a (L11_supplyAt_8 x0 x1 p1 fu)) hz5.symm) (Eq.trans (congrArg (K11_supplyAt_2 x0 x1 p1 i b a z5 (L11_supplyAt_8 x0 x1 p1 fu)) hz9.symm) (rfl)))).symm))) locs hS ls (lv_sub hl [0, 2, 3, 4, 5] rfl)
  refine loop8 7 0 (-1 : Int32) (-1 : Int32) (by omega) (⟨Or.inl (by decide), fun h => absurd (by decide) h⟩) (⟨Or.inl (by decide), fun h => absurd (by decide) h⟩) (fun h => absurd h (by omega)) (by omega) (fun z10 hz10 hqb_z10 hqa_z10 hqn_z10 locs hS ls hl => ?_) [] hS ls (lv_sub hl [0, 1, 2, 3, 4] rfl)
  refine lv_iload_n hx hb dX11_supplyAt_116 rfl (lv_at hl 2 rfl) ?_
  refine lv_if_lt (tgt := 125) hx hb dX11_supplyAt_117 (by decide) (fun c11 => ?_) (fun c11 => ?_)
  · have c11 : z10.2.1 < (0 : Int32) := c11
    refine lv_aload_n hx hb dX11_supplyAt_125 rfl (lv_at hl 3 rfl) ?_
    refine va_get (D := D) (ci := 11) (v := .ref b2) (C := RX11) (T := TX11) (N := 10) hx hb hts hinX11 hown hQ.1 hP 0 rfl rfl 0 (by decide) (hts (.fieldLink RX11 7 "HeatPumpPlantModel" "row" "[J") (List.mem_of_getElem? (i := 1) rfl)) (fun _ h9 => h9) rfl dX11_supplyAt_126 ?_
    refine lv_bipush (v := (69 : Int32)) hx hb dX11_supplyAt_129 (by decide) ?_
    refine lv_iconst (v := (2 : Int32)) hx hb dX11_supplyAt_131 (by decide) ?_
    refine lv_iload_n hx hb dX11_supplyAt_132 rfl (lv_at hl 2 rfl) ?_
    refine lv_if_ge (tgt := 141) hx hb dX11_supplyAt_133 (by decide) (fun c12 => ?_) (fun c12 => ?_)
    · have c12 : (0 : Int32) ≤ z10.2.1 := c12
      exact absurd c12 (w_lt0 c11)
    · have c12 : ¬ ((0 : Int32) ≤ z10.2.1) := c12
      refine lv_iload hx hb dX11_supplyAt_136 (lv_at hl 1 rfl) ?_
      refine lv_goto (tgt := 142) hx hb dX11_supplyAt_138 (by decide) ?_
      refine lv_imul hx hb dX11_supplyAt_142 ?_
      refine lv_iadd hx hb dX11_supplyAt_143 ?_
      refine lv_iconst (v := (1 : Int32)) hx hb dX11_supplyAt_144 (by decide) ?_
      refine lv_iadd hx hb dX11_supplyAt_145 ?_
      refine va_lald (f := x1) hx hb hQ.1 hP 1 1 rfl rfl (w_pin1 hqa_z10.1 (hqn_z10.resolve_left (fun h9 => h9 c11))) dX11_supplyAt_146 ?_
      exact W.lret (v := (x1 (((69 : Int32) + ((2 : Int32) * z10.2.2)) + (1 : Int32)).toNatClampNeg)) hx hb hr (fun t ht hW => ⟨⟨(x1 (((69 : Int32) + ((2 : Int32) * z10.2.2)) + (1 : Int32)).toNatClampNeg), (), rfl, ((Eq.trans (congrArg (K11_supplyAt_3 x0 x1 p1) hz10.symm) (Eq.trans (if_pos c11) (rfl))).symm), ht⟩, hS.F ht⟩) hS.2.2 dX11_supplyAt_147
  · have c11 : ¬ (z10.2.1 < (0 : Int32)) := c11
    refine lv_iload hx hb dX11_supplyAt_120 (lv_at hl 1 rfl) ?_
    refine lv_if_ge (tgt := 148) hx hb dX11_supplyAt_122 (by decide) (fun c13 => ?_) (fun c13 => ?_)
    · have c13 : (0 : Int32) ≤ z10.2.2 := c13
      refine lv_aload_n hx hb dX11_supplyAt_148 rfl (lv_at hl 3 rfl) ?_
      refine va_get (D := D) (ci := 11) (v := .ref b2) (C := RX11) (T := TX11) (N := 10) hx hb hts hinX11 hown hQ.1 hP 0 rfl rfl 0 (by decide) (hts (.fieldLink RX11 7 "HeatPumpPlantModel" "row" "[J") (List.mem_of_getElem? (i := 1) rfl)) (fun _ h9 => h9) rfl dX11_supplyAt_149 ?_
      refine lv_bipush (v := (69 : Int32)) hx hb dX11_supplyAt_152 (by decide) ?_
      refine lv_iconst (v := (2 : Int32)) hx hb dX11_supplyAt_154 (by decide) ?_
      refine lv_iload_n hx hb dX11_supplyAt_155 rfl (lv_at hl 2 rfl) ?_
      refine lv_imul hx hb dX11_supplyAt_156 ?_
      refine lv_iadd hx hb dX11_supplyAt_157 ?_
      refine va_lald (f := x1) hx hb hQ.1 hP 1 1 rfl rfl (w_pin hqb_z10.1 c11) dX11_supplyAt_158 ?_
      refine lv_lstore (lv' := [(5, .long (x1 ((69 : Int32) + ((2 : Int32) * z10.2.1)).toNatClampNeg)), (4, .int z10.2.2), (3, .int z10.2.1), (0, .ref b0), (1, .long p1)]) hx hb dX11_supplyAt_159 hl (by decide) rfl (fun ls hl => ?_)
      refine lv_aload_n hx hb dX11_supplyAt_161 rfl (lv_at hl 3 rfl) ?_
      refine va_get (D := D) (ci := 11) (v := .ref b2) (C := RX11) (T := TX11) (N := 10) hx hb hts hinX11 hown hQ.1 hP 0 rfl rfl 0 (by decide) (hts (.fieldLink RX11 7 "HeatPumpPlantModel" "row" "[J") (List.mem_of_getElem? (i := 1) rfl)) (fun _ h9 => h9) rfl dX11_supplyAt_162 ?_
      refine lv_bipush (v := (69 : Int32)) hx hb dX11_supplyAt_165 (by decide) ?_
      refine lv_iconst (v := (2 : Int32)) hx hb dX11_supplyAt_167 (by decide) ?_
      refine lv_iload hx hb dX11_supplyAt_168 (lv_at hl 1 rfl) ?_
      refine lv_imul hx hb dX11_supplyAt_170 ?_
      refine lv_iadd hx hb dX11_supplyAt_171 ?_
      refine va_lald (f := x1) hx hb hQ.1 hP 1 1 rfl rfl (w_pin hqa_z10.1 (w_nn0 c13)) dX11_supplyAt_172 ?_
      refine lv_lstore (lv' := [(7, .long (x1 ((69 : Int32) + ((2 : Int32) * z10.2.2)).toNatClampNeg)), (5, .long (x1 ((69 : Int32) + ((2 : Int32) * z10.2.1)).toNatClampNeg)), (4, .int z10.2.2), (3, .int z10.2.1), (0, .ref b0), (1, .long p1)]) hx hb dX11_supplyAt_173 hl (by decide) rfl (fun ls hl => ?_)
      refine lv_aload_n hx hb dX11_supplyAt_175 rfl (lv_at hl 4 rfl) ?_
      refine va_get (D := D) (ci := 11) (v := .ref b2) (C := RX11) (T := TX11) (N := 10) hx hb hts hinX11 hown hQ.1 hP 0 rfl rfl 0 (by decide) (hts (.fieldLink RX11 7 "HeatPumpPlantModel" "row" "[J") (List.mem_of_getElem? (i := 1) rfl)) (fun _ h9 => h9) rfl dX11_supplyAt_176 ?_
      refine lv_bipush (v := (69 : Int32)) hx hb dX11_supplyAt_179 (by decide) ?_
      refine lv_iconst (v := (2 : Int32)) hx hb dX11_supplyAt_181 (by decide) ?_
      refine lv_iload_n hx hb dX11_supplyAt_182 rfl (lv_at hl 3 rfl) ?_
      refine lv_imul hx hb dX11_supplyAt_183 ?_
      refine lv_iadd hx hb dX11_supplyAt_184 ?_
      refine lv_iconst (v := (1 : Int32)) hx hb dX11_supplyAt_185 (by decide) ?_
      refine lv_iadd hx hb dX11_supplyAt_186 ?_
      refine va_lald (f := x1) hx hb hQ.1 hP 1 1 rfl rfl (w_pin1 hqb_z10.1 c11) dX11_supplyAt_187 ?_
      refine lv_lstore (lv' := [(9, .long (x1 (((69 : Int32) + ((2 : Int32) * z10.2.1)) + (1 : Int32)).toNatClampNeg)), (7, .long (x1 ((69 : Int32) + ((2 : Int32) * z10.2.2)).toNatClampNeg)), (5, .long (x1 ((69 : Int32) + ((2 : Int32) * z10.2.1)).toNatClampNeg)), (4, .int z10.2.2), (3, .int z10.2.1), (0, .ref b0), (1, .long p1)]) hx hb dX11_supplyAt_188 hl (by decide) rfl (fun ls hl => ?_)
      refine lv_aload_n hx hb dX11_supplyAt_190 rfl (lv_at hl 5 rfl) ?_
      refine va_get (D := D) (ci := 11) (v := .ref b2) (C := RX11) (T := TX11) (N := 10) hx hb hts hinX11 hown hQ.1 hP 0 rfl rfl 0 (by decide) (hts (.fieldLink RX11 7 "HeatPumpPlantModel" "row" "[J") (List.mem_of_getElem? (i := 1) rfl)) (fun _ h9 => h9) rfl dX11_supplyAt_191 ?_
      refine lv_bipush (v := (69 : Int32)) hx hb dX11_supplyAt_194 (by decide) ?_
      refine lv_iconst (v := (2 : Int32)) hx hb dX11_supplyAt_196 (by decide) ?_
      refine lv_iload hx hb dX11_supplyAt_197 (lv_at hl 3 rfl) ?_
      refine lv_imul hx hb dX11_supplyAt_199 ?_
      refine lv_iadd hx hb dX11_supplyAt_200 ?_
      refine lv_iconst (v := (1 : Int32)) hx hb dX11_supplyAt_201 (by decide) ?_
      refine lv_iadd hx hb dX11_supplyAt_202 ?_
      refine va_lald (f := x1) hx hb hQ.1 hP 1 1 rfl rfl (w_pin1 hqa_z10.1 (w_nn0 c13)) dX11_supplyAt_203 ?_
      refine lv_lstore (lv' := [(11, .long (x1 (((69 : Int32) + ((2 : Int32) * z10.2.2)) + (1 : Int32)).toNatClampNeg)), (9, .long (x1 (((69 : Int32) + ((2 : Int32) * z10.2.1)) + (1 : Int32)).toNatClampNeg)), (7, .long (x1 ((69 : Int32) + ((2 : Int32) * z10.2.2)).toNatClampNeg)), (5, .long (x1 ((69 : Int32) + ((2 : Int32) * z10.2.1)).toNatClampNeg)), (4, .int z10.2.2), (3, .int z10.2.1), (0, .ref b0), (1, .long p1)]) hx hb dX11_supplyAt_204 hl (by decide) rfl (fun ls hl => ?_)
      refine lv_lload hx hb dX11_supplyAt_206 (lv_at hl 1 rfl) ?_
      refine lv_lload hx hb dX11_supplyAt_208 (lv_at hl 0 rfl) ?_
      refine lv_lload hx hb dX11_supplyAt_210 (lv_at hl 1 rfl) ?_
      refine lv_lsub hx hb dX11_supplyAt_212 ?_
      refine lv_lload_n hx hb dX11_supplyAt_213 rfl (lv_at hl 7 rfl) ?_
      refine lv_lload hx hb dX11_supplyAt_214 (lv_at hl 3 rfl) ?_
      refine lv_lsub hx hb dX11_supplyAt_216 ?_
      refine lv_lmul hx hb dX11_supplyAt_217 ?_
      refine lv_lload hx hb dX11_supplyAt_218 (lv_at hl 2 rfl) ?_
      refine lv_lload hx hb dX11_supplyAt_220 (lv_at hl 3 rfl) ?_
      refine lv_lsub hx hb dX11_supplyAt_222 ?_
      have hPc : va_P D vwCl (wF []) s.heap := hP.sub [] rfl
      refine c_Rl (va_runS (As := [.long (((x1 (((69 : Int32) + ((2 : Int32) * z10.2.2)) + (1 : Int32)).toNatClampNeg) - (x1 (((69 : Int32) + ((2 : Int32) * z10.2.1)) + (1 : Int32)).toNatClampNeg)) * (p1 - (x1 ((69 : Int32) + ((2 : Int32) * z10.2.1)).toNatClampNeg))), .long ((x1 ((69 : Int32) + ((2 : Int32) * z10.2.2)).toNatClampNeg) - (x1 ((69 : Int32) + ((2 : Int32) * z10.2.1)).toNatClampNeg))]) (rest := [.long (x1 (((69 : Int32) + ((2 : Int32) * z10.2.1)) + (1 : Int32)).toNatClampNeg)]) ⟨hx, hb, hml, hown, hts⟩ (m11_div l D cI cL cP (((x1 (((69 : Int32) + ((2 : Int32) * z10.2.2)) + (1 : Int32)).toNatClampNeg) - (x1 (((69 : Int32) + ((2 : Int32) * z10.2.1)) + (1 : Int32)).toNatClampNeg)) * (p1 - (x1 ((69 : Int32) + ((2 : Int32) * z10.2.1)).toNatClampNeg))) ((x1 ((69 : Int32) + ((2 : Int32) * z10.2.2)).toNatClampNeg) - (x1 ((69 : Int32) + ((2 : Int32) * z10.2.1)).toNatClampNeg)) (w_sub0 (hqb_z10.2 c11) (hqa_z10.2 (w_nn0 c13))) s.heap) (va_cwS 2 hts gX11_supplyAt_X11_div rfl rfl rfl (by decide +kernel) ⟨Nat.le_of_ble_eq_true rfl, Nat.le_of_ble_eq_true rfl⟩) (preR_S hQ hPc) rfl rfl hl.1 rfl (lv_room (Nat.le_of_ble_eq_true rfl)) dX11_supplyAt_223 ⟨Nat.le_of_ble_eq_true rfl, Nat.le_of_ble_eq_true rfl⟩) hS (fun locs hS => ?_)
      refine lv_ladd hx hb dX11_supplyAt_226 ?_
      exact W.lret (v := ((x1 (((69 : Int32) + ((2 : Int32) * z10.2.1)) + (1 : Int32)).toNatClampNeg) + (F11_div (((x1 (((69 : Int32) + ((2 : Int32) * z10.2.2)) + (1 : Int32)).toNatClampNeg) - (x1 (((69 : Int32) + ((2 : Int32) * z10.2.1)) + (1 : Int32)).toNatClampNeg)) * (p1 - (x1 ((69 : Int32) + ((2 : Int32) * z10.2.1)).toNatClampNeg))) ((x1 ((69 : Int32) + ((2 : Int32) * z10.2.2)).toNatClampNeg) - (x1 ((69 : Int32) + ((2 : Int32) * z10.2.1)).toNatClampNeg))))) hx hb hr (fun t ht hW => ⟨⟨((x1 (((69 : Int32) + ((2 : Int32) * z10.2.1)) + (1 : Int32)).toNatClampNeg) + (F11_div (((x1 (((69 : Int32) + ((2 : Int32) * z10.2.2)) + (1 : Int32)).toNatClampNeg) - (x1 (((69 : Int32) + ((2 : Int32) * z10.2.1)) + (1 : Int32)).toNatClampNeg)) * (p1 - (x1 ((69 : Int32) + ((2 : Int32) * z10.2.1)).toNatClampNeg))) ((x1 ((69 : Int32) + ((2 : Int32) * z10.2.2)).toNatClampNeg) - (x1 ((69 : Int32) + ((2 : Int32) * z10.2.1)).toNatClampNeg)))), (), rfl, ((Eq.trans (congrArg (K11_supplyAt_3 x0 x1 p1) hz10.symm) (Eq.trans (if_neg c11) (Eq.trans (if_pos c13) (rfl)))).symm), ht⟩, hS.F ht⟩) hS.2.2 dX11_supplyAt_227
    · have c13 : ¬ ((0 : Int32) ≤ z10.2.2) := c13
      refine lv_aload_n hx hb dX11_supplyAt_125 rfl (lv_at hl 3 rfl) ?_
      refine va_get (D := D) (ci := 11) (v := .ref b2) (C := RX11) (T := TX11) (N := 10) hx hb hts hinX11 hown hQ.1 hP 0 rfl rfl 0 (by decide) (hts (.fieldLink RX11 7 "HeatPumpPlantModel" "row" "[J") (List.mem_of_getElem? (i := 1) rfl)) (fun _ h9 => h9) rfl dX11_supplyAt_126 ?_
      refine lv_bipush (v := (69 : Int32)) hx hb dX11_supplyAt_129 (by decide) ?_
      refine lv_iconst (v := (2 : Int32)) hx hb dX11_supplyAt_131 (by decide) ?_
      refine lv_iload_n hx hb dX11_supplyAt_132 rfl (lv_at hl 2 rfl) ?_
      refine lv_if_ge (tgt := 141) hx hb dX11_supplyAt_133 (by decide) (fun c14 => ?_) (fun c14 => ?_)
      · have c14 : (0 : Int32) ≤ z10.2.1 := c14
        refine lv_iload_n hx hb dX11_supplyAt_141 rfl (lv_at hl 2 rfl) ?_
        refine lv_imul hx hb dX11_supplyAt_142 ?_
        refine lv_iadd hx hb dX11_supplyAt_143 ?_
        refine lv_iconst (v := (1 : Int32)) hx hb dX11_supplyAt_144 (by decide) ?_
        refine lv_iadd hx hb dX11_supplyAt_145 ?_
        refine va_lald (f := x1) hx hb hQ.1 hP 1 1 rfl rfl (w_pin1 hqb_z10.1 c11) dX11_supplyAt_146 ?_
        exact W.lret (v := (x1 (((69 : Int32) + ((2 : Int32) * z10.2.1)) + (1 : Int32)).toNatClampNeg)) hx hb hr (fun t ht hW => ⟨⟨(x1 (((69 : Int32) + ((2 : Int32) * z10.2.1)) + (1 : Int32)).toNatClampNeg), (), rfl, ((Eq.trans (congrArg (K11_supplyAt_3 x0 x1 p1) hz10.symm) (Eq.trans (if_neg c11) (Eq.trans (if_neg c13) (rfl)))).symm), ht⟩, hS.F ht⟩) hS.2.2 dX11_supplyAt_147
      · have c14 : ¬ ((0 : Int32) ≤ z10.2.1) := c14
        exact absurd c14 (fun h9 => h9 (Int32.not_lt.mp c11))
def F11_supply (x0 : MoN) (x1 : (Nat → Int64)) (p1 : Int32) : Int32 := (if (F11_in p1.toInt64 (-300 : Int64) (400 : Int64)) = true then ((F11_supplyAt x0 x1 p1.toInt64).toInt32) else (-9999 : Int32))
set_option maxHeartbeats 4000000 in
set_option maxRecDepth 100000 in
theorem m11_supply (l : Launch) (D : va_G) (cI cL cP : ClassId) (b0 : Nat) (b1 : Nat) (b2 : Nat) (x0 : MoN) (x1 : (Nat → Int64)) (p1 : Int32) (hc : (x1 68).toInt ≤ 6) (hc1 : 1 ≤ (x1 68).toInt) (H0 : Heap) : Met l yX11_supply wsX11_supply ({ frames := 2, cells := 0, slots := 0, locals := 57 }) (va_Pc [.ref b0, .int p1] (pR D cI cL cP H0 (wF [gN b0 b2 b1 x0, gR cL b2 x1]))) (va_Qi (fun (r : Int32) (_ : Unit) => r = F11_supply x0 x1 p1) (qE H0) nF) 0 0 nF := by
  refine Met.ofW (cc := cX11_supply) (maxL := 2) (ret := (some .int)) (by decide) rfl ?_
  intro p e s m args below meth c s₁ B hml hv
  obtain ⟨rfl, rfl, hP, hQ⟩ := hv
  have hx := B.exec
  have hb := B.bytes
  have hr := B.returns
  have hts := atoms_spec (ws := wsX11_supply) B.pre
  have hown : s.vm.findClass RX11 = some m.cls := findClass_of_methodNamed B.named
  have hlocks := B.notSynchronized
  have hS : va_S nF s.heap s.heap [] := va_S.rf
  have hl := lv_entry ([.ref b0, .int p1]) (n := 2) (Nat.le_of_ble_eq_true rfl)
  rw [lg_entry_eq]
  generalize (lg_sl ([.ref b0, .int p1]) ++ List.replicate (2 - (lg_sl ([.ref b0, .int p1])).length) Slot.unset).toArray = ls at hl ⊢
  have hl : lv_has ls 2 [(0, .ref b0), (1, .int p1)] := hl
  have hinX11 : ∀ w ∈ wsX110, w ∈ wsX11_supply := fun _ h => List.mem_cons_of_mem _ (List.mem_append_right _ h)
  refine lv_iload_n hx hb dX11_supply_0 rfl (lv_at hl 1 rfl) ?_
  refine lv_i2l hx hb dX11_supply_1 rfl ?_
  refine lv_ldc2 (own := RX11) (index := 80) (v := (-300 : Int64)) hx hb hown (hts (.constantLong RX11 80 (-300)) (List.mem_of_getElem? (i := 1) rfl)) dX11_supply_2 ?_
  refine lv_ldc2 (own := RX11) (index := 82) (v := (400 : Int64)) hx hb hown (hts (.constantLong RX11 82 (400)) (List.mem_of_getElem? (i := 2) rfl)) dX11_supply_5 ?_
  have hPc : va_P D vwCl (wF []) s.heap := hP.sub [] rfl
  refine c_Ri (va_runS (As := [.long p1.toInt64, .long (-300 : Int64), .long (400 : Int64)]) (rest := []) ⟨hx, hb, hml, hown, hts⟩ (m11_in l D cI cL cP p1.toInt64 (-300 : Int64) (400 : Int64) s.heap) (va_cwS 3 hts gX11_supply_X11_in rfl rfl rfl (by decide +kernel) ⟨Nat.le_of_ble_eq_true rfl, Nat.le_of_ble_eq_true rfl⟩) (preR_S hQ hPc) rfl rfl hl.1 rfl (lv_room (Nat.le_of_ble_eq_true rfl)) dX11_supply_8 ⟨Nat.le_of_ble_eq_true rfl, Nat.le_of_ble_eq_true rfl⟩) hS (fun locs hS => ?_)
  refine lv_if_eq (tgt := 24) hx hb dX11_supply_11 (by decide) (fun c1 => ?_) (fun c1 => ?_)
  · have c1 : ¬ ((F11_in p1.toInt64 (-300 : Int64) (400 : Int64)) = true) := bI_0.mp c1
    refine lv_sipush (v := (-9999 : Int32)) hx hb dX11_supply_24 (by decide) ?_
    exact W.iret (v := (-9999 : Int32)) hx hb hr (fun t ht hW => ⟨⟨(-9999 : Int32), (), rfl, ((Eq.trans (if_neg c1) (rfl)).symm), ht⟩, hS.F ht⟩) hS.2.2 dX11_supply_27
  · have c1 : (F11_in p1.toInt64 (-300 : Int64) (400 : Int64)) = true := bI_1.mp c1
    refine lv_aload_n hx hb dX11_supply_14 rfl (lv_at hl 0 rfl) ?_
    refine lv_iload_n hx hb dX11_supply_15 rfl (lv_at hl 1 rfl) ?_
    refine lv_i2l hx hb dX11_supply_16 rfl ?_
    have hPc : va_P D vwCl (wF [gN b0 b2 b1 x0, gR cL b2 x1]) s.heap := hP.sub [0, 1] rfl
    refine c_Rl (va_runV (As := [.long p1.toInt64]) (rest := []) ⟨hx, hb, hml, hown, hts⟩ (m11_supplyAt l D cI cL cP b0 b1 b2 x0 x1 p1.toInt64 (by omega) (by omega) s.heap) (cwV 1 hts gX11_supply_X11_supplyAt rfl rfl rfl (by decide +kernel) ⟨Nat.le_of_ble_eq_true rfl, Nat.le_of_ble_eq_true rfl⟩) (preR_V (q := (RX11, TX11, 10)) (q0 := 0) hQ hPc rfl rfl) rfl rfl hl.1 rfl (lv_room (Nat.le_of_ble_eq_true rfl)) dX11_supply_17 ⟨Nat.le_of_ble_eq_true rfl, Nat.le_of_ble_eq_true rfl⟩) hS (fun locs hS => ?_)
    refine lv_l2i hx hb dX11_supply_20 rfl ?_
    refine lv_goto (tgt := 27) hx hb dX11_supply_21 (by decide) ?_
    exact W.iret (v := (F11_supplyAt x0 x1 p1.toInt64).toInt32) hx hb hr (fun t ht hW => ⟨⟨(F11_supplyAt x0 x1 p1.toInt64).toInt32, (), rfl, ((Eq.trans (if_pos c1) (rfl)).symm), ht⟩, hS.F ht⟩) hS.2.2 dX11_supply_27
def F11_targetOf (x0 : MoN) (x1 : (Nat → Int64)) (p1 : Nat) : Int64 := (if (x1 (41 + p1)) = (0 : Int64) then ((F11_supplyAt x0 x1 (x1 (17 + p1))) + (F11_set1 x1 5)) else ((F11_supplyAt x0 x1 (x1 (17 + p1))) + (0 : Int64)))
set_option maxHeartbeats 4000000 in
set_option maxRecDepth 100000 in
theorem m11_targetOf (l : Launch) (D : va_G) (cI cL cP : ClassId) (b0 : Nat) (b1 : Nat) (b2 : Nat) (x0 : MoN) (x1 : (Nat → Int64)) (p1 : Nat) (hp : p1 < 24) (hc : (x1 68).toInt ≤ 6) (hc1 : 1 ≤ (x1 68).toInt) (H0 : Heap) : Met l yX11_targetOf wsX11_targetOf ({ frames := 2, cells := 0, slots := 0, locals := 57 }) (va_Pc [.ref b0, .int (nI p1)] (pR D cI cL cP H0 (wF [gN b0 b2 b1 x0, gR cL b2 x1]))) (va_Ql (fun (r : Int64) (_ : Unit) => r = F11_targetOf x0 x1 p1) (qE H0) nF) 0 0 nF := by
  refine Met.ofW (cc := cX11_targetOf) (maxL := 2) (ret := (some .long)) (by decide) rfl ?_
  intro p e s m args below meth c s₁ B hml hv
  obtain ⟨rfl, rfl, hP, hQ⟩ := hv
  have hx := B.exec
  have hb := B.bytes
  have hr := B.returns
  have hts := atoms_spec (ws := wsX11_targetOf) B.pre
  have hown : s.vm.findClass RX11 = some m.cls := findClass_of_methodNamed B.named
  have hlocks := B.notSynchronized
  have hS : va_S nF s.heap s.heap [] := va_S.rf
  have hl := lv_entry ([.ref b0, .int (nI p1)]) (n := 2) (Nat.le_of_ble_eq_true rfl)
  rw [lg_entry_eq]
  generalize (lg_sl ([.ref b0, .int (nI p1)]) ++ List.replicate (2 - (lg_sl ([.ref b0, .int (nI p1)])).length) Slot.unset).toArray = ls at hl ⊢
  have hl : lv_has ls 2 [(0, .ref b0), (1, .int (nI p1))] := hl
  have hinX11 : ∀ w ∈ wsX110, w ∈ wsX11_targetOf := fun _ h => List.mem_cons_of_mem _ (List.mem_append_right _ h)
  refine lv_aload_n hx hb dX11_targetOf_0 rfl (lv_at hl 0 rfl) ?_
  refine lv_aload_n hx hb dX11_targetOf_1 rfl (lv_at hl 0 rfl) ?_
  refine va_get (D := D) (ci := 11) (v := .ref b2) (C := RX11) (T := TX11) (N := 10) hx hb hts hinX11 hown hQ.1 hP 0 rfl rfl 0 (by decide) (hts (.fieldLink RX11 7 "HeatPumpPlantModel" "row" "[J") (List.mem_of_getElem? (i := 1) rfl)) (fun _ h9 => h9) rfl dX11_targetOf_2 ?_
  refine lv_bipush (v := (17 : Int32)) hx hb dX11_targetOf_5 (by decide) ?_
  refine lv_iload_n hx hb dX11_targetOf_7 rfl (lv_at hl 1 rfl) ?_
  refine lv_iadd hx hb dX11_targetOf_8 ?_
  refine w_lald (f := x1) (j := (17 + p1)) hx hb hQ.1 hP 1 1 rfl rfl ((congr (congrArg HAdd.hAdd (show (17 : Int32) = nI 17 from (rfl : (17 : Int32) = nI 17))) (show (nI p1) = nI p1 from rfl)).trans (nI_add 17 p1)) (by omega) (by decide) dX11_targetOf_9 ?_
  have hPc : va_P D vwCl (wF [gN b0 b2 b1 x0, gR cL b2 x1]) s.heap := hP.sub [0, 1] rfl
  refine c_Rl (va_runV (As := [.long (x1 (17 + p1))]) (rest := []) ⟨hx, hb, hml, hown, hts⟩ (m11_supplyAt l D cI cL cP b0 b1 b2 x0 x1 (x1 (17 + p1)) (by omega) (by omega) s.heap) (cwV 1 hts gX11_targetOf_X11_supplyAt rfl rfl rfl (by decide +kernel) ⟨Nat.le_of_ble_eq_true rfl, Nat.le_of_ble_eq_true rfl⟩) (preR_V (q := (RX11, TX11, 10)) (q0 := 0) hQ hPc rfl rfl) rfl rfl hl.1 rfl (lv_room (Nat.le_of_ble_eq_true rfl)) dX11_targetOf_10 ⟨Nat.le_of_ble_eq_true rfl, Nat.le_of_ble_eq_true rfl⟩) hS (fun locs hS => ?_)
  refine lv_aload_n hx hb dX11_targetOf_13 rfl (lv_at hl 0 rfl) ?_
  refine va_get (D := D) (ci := 11) (v := .ref b2) (C := RX11) (T := TX11) (N := 10) hx hb hts hinX11 hown hQ.1 hP 0 rfl rfl 0 (by decide) (hts (.fieldLink RX11 7 "HeatPumpPlantModel" "row" "[J") (List.mem_of_getElem? (i := 1) rfl)) (fun _ h9 => h9) rfl dX11_targetOf_14 ?_
  refine lv_bipush (v := (41 : Int32)) hx hb dX11_targetOf_17 (by decide) ?_
  refine lv_iload_n hx hb dX11_targetOf_19 rfl (lv_at hl 1 rfl) ?_
  refine lv_iadd hx hb dX11_targetOf_20 ?_
  refine w_lald (f := x1) (j := (41 + p1)) hx hb hQ.1 hP 1 1 rfl rfl ((congr (congrArg HAdd.hAdd (show (41 : Int32) = nI 41 from (rfl : (41 : Int32) = nI 41))) (show (nI p1) = nI p1 from rfl)).trans (nI_add 41 p1)) (by omega) (by decide) dX11_targetOf_21 ?_
  refine lv_lconst (v := (0 : Int64)) hx hb dX11_targetOf_22 rfl ?_
  refine w_lne (tgt := 35) hx hb dX11_targetOf_23 dX11_targetOf_24 (by decide) (fun c1 => ?_) (fun c1 => ?_)
  · have c1 : ¬ ((x1 (41 + p1)) = (0 : Int64)) := c1
    refine lv_lconst (v := (0 : Int64)) hx hb dX11_targetOf_35 rfl ?_
    refine lv_ladd hx hb dX11_targetOf_36 ?_
    exact W.lret (v := ((F11_supplyAt x0 x1 (x1 (17 + p1))) + (0 : Int64))) hx hb hr (fun t ht hW => ⟨⟨((F11_supplyAt x0 x1 (x1 (17 + p1))) + (0 : Int64)), (), rfl, ((Eq.trans (if_neg c1) (rfl)).symm), ht⟩, hS.F ht⟩) hS.2.2 dX11_targetOf_37
  · have c1 : (x1 (41 + p1)) = (0 : Int64) := c1
    refine lv_aload_n hx hb dX11_targetOf_27 rfl (lv_at hl 0 rfl) ?_
    refine lv_iconst (v := (5 : Int32)) hx hb dX11_targetOf_28 (by decide) ?_
    have hPc : va_P D vwCl (wF [gN b0 b2 b1 x0, gR cL b2 x1]) s.heap := hP.sub [0, 1] rfl
    refine c_Rl (va_runV (As := [.int (nI 5)]) (rest := [.long (F11_supplyAt x0 x1 (x1 (17 + p1)))]) ⟨hx, hb, hml, hown, hts⟩ (m11_set1 l D cI cL cP b0 b1 b2 x0 x1 5 (by omega) s.heap) (cwV 1 hts gX11_targetOf_X11_set1 rfl rfl rfl (by decide +kernel) ⟨Nat.le_of_ble_eq_true rfl, Nat.le_of_ble_eq_true rfl⟩) (preR_V (q := (RX11, TX11, 10)) (q0 := 0) hQ hPc rfl rfl) rfl rfl hl.1 rfl (lv_room (Nat.le_of_ble_eq_true rfl)) dX11_targetOf_29 ⟨Nat.le_of_ble_eq_true rfl, Nat.le_of_ble_eq_true rfl⟩) hS (fun locs hS => ?_)
    refine lv_goto (tgt := 36) hx hb dX11_targetOf_32 (by decide) ?_
    refine lv_ladd hx hb dX11_targetOf_36 ?_
    exact W.lret (v := ((F11_supplyAt x0 x1 (x1 (17 + p1))) + (F11_set1 x1 5))) hx hb hr (fun t ht hW => ⟨⟨((F11_supplyAt x0 x1 (x1 (17 + p1))) + (F11_set1 x1 5)), (), rfl, ((Eq.trans (if_pos c1) (rfl)).symm), ht⟩, hS.F ht⟩) hS.2.2 dX11_targetOf_37
def F11_target (x0 : MoN) (x1 : (Nat → Int64)) (p1 : Int32) : Int32 := (if (F11_isHour p1) = true then ((F11_targetOf x0 x1 (p1.toNatClampNeg)).toInt32) else (-9999 : Int32))
set_option maxHeartbeats 4000000 in
set_option maxRecDepth 100000 in
theorem m11_target (l : Launch) (D : va_G) (cI cL cP : ClassId) (b0 : Nat) (b1 : Nat) (b2 : Nat) (x0 : MoN) (x1 : (Nat → Int64)) (p1 : Int32) (hc : (x1 68).toInt ≤ 6) (hc1 : 1 ≤ (x1 68).toInt) (H0 : Heap) : Met l yX11_target wsX11_target ({ frames := 3, cells := 0, slots := 0, locals := 78 }) (va_Pc [.ref b0, .int p1] (pR D cI cL cP H0 (wF [gN b0 b2 b1 x0, gR cL b2 x1]))) (va_Qi (fun (r : Int32) (_ : Unit) => r = F11_target x0 x1 p1) (qE H0) nF) 0 0 nF := by
  refine Met.ofW (cc := cX11_target) (maxL := 2) (ret := (some .int)) (by decide) rfl ?_
  intro p e s m args below meth c s₁ B hml hv
  obtain ⟨rfl, rfl, hP, hQ⟩ := hv
  have hx := B.exec
  have hb := B.bytes
  have hr := B.returns
  have hts := atoms_spec (ws := wsX11_target) B.pre
  have hown : s.vm.findClass RX11 = some m.cls := findClass_of_methodNamed B.named
  have hlocks := B.notSynchronized
  have hS : va_S nF s.heap s.heap [] := va_S.rf
  have hl := lv_entry ([.ref b0, .int p1]) (n := 2) (Nat.le_of_ble_eq_true rfl)
  rw [lg_entry_eq]
  generalize (lg_sl ([.ref b0, .int p1]) ++ List.replicate (2 - (lg_sl ([.ref b0, .int p1])).length) Slot.unset).toArray = ls at hl ⊢
  have hl : lv_has ls 2 [(0, .ref b0), (1, .int p1)] := hl
  have hinX11 : ∀ w ∈ wsX110, w ∈ wsX11_target := fun _ h => List.mem_cons_of_mem _ (List.mem_append_right _ h)
  refine lv_iload_n hx hb dX11_target_0 rfl (lv_at hl 1 rfl) ?_
  have hPc : va_P D vwCl (wF []) s.heap := hP.sub [] rfl
  refine c_Ri (va_runS (As := [.int p1]) (rest := []) ⟨hx, hb, hml, hown, hts⟩ (m11_isHour l D cI cL cP p1 s.heap) (va_cwS 1 hts gX11_target_X11_isHour rfl rfl rfl (by decide +kernel) ⟨Nat.le_of_ble_eq_true rfl, Nat.le_of_ble_eq_true rfl⟩) (preR_S hQ hPc) rfl rfl hl.1 rfl (lv_room (Nat.le_of_ble_eq_true rfl)) dX11_target_1 ⟨Nat.le_of_ble_eq_true rfl, Nat.le_of_ble_eq_true rfl⟩) hS (fun locs hS => ?_)
  refine lv_if_eq (tgt := 16) hx hb dX11_target_4 (by decide) (fun c1 => ?_) (fun c1 => ?_)
  · have c1 : ¬ ((F11_isHour p1) = true) := bI_0.mp c1
    refine lv_sipush (v := (-9999 : Int32)) hx hb dX11_target_16 (by decide) ?_
    exact W.iret (v := (-9999 : Int32)) hx hb hr (fun t ht hW => ⟨⟨(-9999 : Int32), (), rfl, ((Eq.trans (if_neg c1) (rfl)).symm), ht⟩, hS.F ht⟩) hS.2.2 dX11_target_19
  · have c1 : (F11_isHour p1) = true := bI_1.mp c1
    refine lv_aload_n hx hb dX11_target_7 rfl (lv_at hl 0 rfl) ?_
    refine lv_iload_n hx hb dX11_target_8 rfl (lv_at hl 1 rfl) ?_
    refine w_topn (p1.toNatClampNeg) (w_hrN c1) ?_
    have hPc : va_P D vwCl (wF [gN b0 b2 b1 x0, gR cL b2 x1]) s.heap := hP.sub [0, 1] rfl
    refine c_Rl (va_runV (As := [.int (nI (p1.toNatClampNeg))]) (rest := []) ⟨hx, hb, hml, hown, hts⟩ (m11_targetOf l D cI cL cP b0 b1 b2 x0 x1 (p1.toNatClampNeg) (w_hrL c1) (by omega) (by omega) s.heap) (cwV 1 hts gX11_target_X11_targetOf rfl rfl rfl (by decide +kernel) ⟨Nat.le_of_ble_eq_true rfl, Nat.le_of_ble_eq_true rfl⟩) (preR_V (q := (RX11, TX11, 10)) (q0 := 0) hQ hPc rfl rfl) rfl rfl hl.1 rfl (lv_room (Nat.le_of_ble_eq_true rfl)) dX11_target_9 ⟨Nat.le_of_ble_eq_true rfl, Nat.le_of_ble_eq_true rfl⟩) hS (fun locs hS => ?_)
    refine lv_l2i hx hb dX11_target_12 rfl ?_
    refine lv_goto (tgt := 19) hx hb dX11_target_13 (by decide) ?_
    exact W.iret (v := (F11_targetOf x0 x1 (p1.toNatClampNeg)).toInt32) hx hb hr (fun t ht hW => ⟨⟨(F11_targetOf x0 x1 (p1.toNatClampNeg)).toInt32, (), rfl, ((Eq.trans (if_pos c1) (rfl)).symm), ht⟩, hS.F ht⟩) hS.2.2 dX11_target_19
def F11_layEnergies (x1 : (Nat → Int64)) (p1 : Int32) (p2 : Int32) : (Nat → Int64) := (vp_updL (vp_updL (vp_updL (vp_updL (vp_updL x1 81 p1.toInt64) 82 (p1.toInt64 * p2.toInt64)) 83 (p1.toInt64 * p2.toInt64)) 84 (p1.toInt64 * p2.toInt64)) 85 (p1.toInt64 * p2.toInt64))
set_option maxHeartbeats 4000000 in
set_option maxRecDepth 100000 in
theorem m11_layEnergies (l : Launch) (D : va_G) (cI cL cP : ClassId) (b0 : Nat) (b1 : Nat) (b2 : Nat) (x0 : MoN) (x1 : (Nat → Int64)) (p1 : Int32) (p2 : Int32) (sz : Nat) : Met l yX11_layEnergies wsX11_layEnergies ({ frames := 0, cells := 0, slots := 0, locals := 0 }) (va_Pc [.ref b0, .int p1, .int p2] (pM D cI cL cP sz (wF [gN b0 b2 b1 x0, gR cL b2 x1]))) (va_Qv (fun (w : (Nat → Int64)) => w = F11_layEnergies x1 p1 p2) (qW D (va_A (wF [gN b0 b2 b1 x0, gR cL b2 x1]) sz) (fun w : (Nat → Int64) => (wF [gN b0 b2 b1 x0, gR cL b2 w]))) (va_A (wF [gN b0 b2 b1 x0, gR cL b2 x1]) sz)) 0 0 (va_A (wF [gN b0 b2 b1 x0, gR cL b2 x1]) sz) := by
  refine Met.ofW (cc := cX11_layEnergies) (maxL := 4) (ret := none) (by decide) rfl ?_
  intro p e s m args below meth c s₁ B hml hv
  obtain ⟨rfl, hsz, hP, hQ, hD0⟩ := hv
  have hx := B.exec
  have hb := B.bytes
  have hr := B.returns
  have hts := atoms_spec (ws := wsX11_layEnergies) B.pre
  have hown : s.vm.findClass RX11 = some m.cls := findClass_of_methodNamed B.named
  have hlocks := B.notSynchronized
  subst hsz
  have hD := hD0.self (sz := s.heap.size)
  generalize hAe : va_A (wF [gN b0 b2 b1 x0, gR cL b2 x1]) s.heap.size = A at hD ⊢
  have hA : ∀ q : Nat, s.heap.size ≤ q → A q := fun q h => by rw [← hAe]; exact Or.inr h
  have hS : va_S A s.heap s.heap [] := va_S.rf
  have hP : va_P D vwCl (wF [gN b0 b2 b1 x0, gR cL b2 x1]) s.heap := hP
  have hl := lv_entry ([.ref b0, .int p1, .int p2]) (n := 4) (Nat.le_of_ble_eq_true rfl)
  rw [lg_entry_eq]
  generalize (lg_sl ([.ref b0, .int p1, .int p2]) ++ List.replicate (4 - (lg_sl ([.ref b0, .int p1, .int p2])).length) Slot.unset).toArray = ls at hl ⊢
  have hl : lv_has ls 4 [(0, .ref b0), (1, .int p1), (2, .int p2)] := hl
  have hinX11 : ∀ w ∈ wsX110, w ∈ wsX11_layEnergies := fun _ h => List.mem_cons_of_mem _ (List.mem_append_right _ h)
  refine lv_aload_n hx hb dX11_layEnergies_0 rfl (lv_at hl 0 rfl) ?_
  refine va_get (D := D) (ci := 11) (v := .ref b2) (C := RX11) (T := TX11) (N := 10) hx hb hts hinX11 hown hQ.1 hP 0 rfl rfl 0 (by decide) (hts (.fieldLink RX11 7 "HeatPumpPlantModel" "row" "[J") (List.mem_of_getElem? (i := 1) rfl)) (fun _ h9 => h9) rfl dX11_layEnergies_1 ?_
  refine lv_bipush (v := (81 : Int32)) hx hb dX11_layEnergies_4 (by decide) ?_
  refine lv_iload_n hx hb dX11_layEnergies_6 rfl (lv_at hl 1 rfl) ?_
  refine lv_i2l hx hb dX11_layEnergies_7 rfl ?_
  refine w_last (f := x1) (j := 81) hx hb hQ.1 hP hD hS 1 1 rfl rfl (rfl : (81 : Int32) = nI 81) (by omega) (by decide) dX11_layEnergies_8 (fun H locs hP hD hS => ?_)
  have hP : va_P D vwCl (wF [gN b0 b2 b1 x0, gR cL b2 (vp_updL x1 81 p1.toInt64)]) H := hP
  have hD : va_D A (wF [gN b0 b2 b1 x0, gR cL b2 (vp_updL x1 81 p1.toInt64)]) := hD
  refine lv_iconst (v := (0 : Int32)) hx hb dX11_layEnergies_9 (by decide) ?_
  refine lv_istore_n (lv' := [(3, .int (0 : Int32)), (0, .ref b0), (1, .int p1), (2, .int p2)]) hx hb dX11_layEnergies_10 rfl hl (by decide) rfl (fun ls hl => ?_)
  refine lv_iload_n hx hb dX11_layEnergies_11 rfl (lv_at hl 0 rfl) ?_
  refine lv_iconst (v := (4 : Int32)) hx hb dX11_layEnergies_12 (by decide) ?_
  refine lv_icmp_ge (tgt := 36) hx hb dX11_layEnergies_13 (by decide) (fun c1 => absurd c1 (by decide)) (fun _ => ?_)
  refine lv_aload_n hx hb dX11_layEnergies_16 rfl (lv_at hl 1 rfl) ?_
  refine va_get (D := D) (ci := 11) (v := .ref b2) (C := RX11) (T := TX11) (N := 10) hx hb hts hinX11 hown hQ.1 hP 0 rfl rfl 0 (by decide) (hts (.fieldLink RX11 7 "HeatPumpPlantModel" "row" "[J") (List.mem_of_getElem? (i := 1) rfl)) (fun _ h9 => h9) rfl dX11_layEnergies_17 ?_
  refine lv_bipush (v := (82 : Int32)) hx hb dX11_layEnergies_20 (by decide) ?_
  refine lv_iload_n hx hb dX11_layEnergies_22 rfl (lv_at hl 0 rfl) ?_
  refine lv_iadd hx hb dX11_layEnergies_23 ?_
  refine lv_iload_n hx hb dX11_layEnergies_24 rfl (lv_at hl 2 rfl) ?_
  refine lv_i2l hx hb dX11_layEnergies_25 rfl ?_
  refine lv_iload_n hx hb dX11_layEnergies_26 rfl (lv_at hl 3 rfl) ?_
  refine lv_i2l hx hb dX11_layEnergies_27 rfl ?_
  refine lv_lmul hx hb dX11_layEnergies_28 ?_
  refine w_last (f := (vp_updL x1 81 p1.toInt64)) (j := 82) hx hb hQ.1 hP hD hS 1 1 rfl rfl (by decide) (by omega) (by decide) dX11_layEnergies_29 (fun H locs hP hD hS => ?_)
  have hP : va_P D vwCl (wF [gN b0 b2 b1 x0, gR cL b2 (vp_updL (vp_updL x1 81 p1.toInt64) 82 (p1.toInt64 * p2.toInt64))]) H := hP
  have hD : va_D A (wF [gN b0 b2 b1 x0, gR cL b2 (vp_updL (vp_updL x1 81 p1.toInt64) 82 (p1.toInt64 * p2.toInt64))]) := hD
  refine lv_iinc (v := (1 : Int32)) (lv' := [(3, .int (1 : Int32)), (0, .ref b0), (1, .int p1), (2, .int p2)]) hx hb dX11_layEnergies_30 hl (k := 0) rfl (by decide) (by decide) rfl (fun ls hl => ?_)
  refine lv_goto (tgt := 11) hx hb dX11_layEnergies_33 (by decide) ?_
  refine lv_iload_n hx hb dX11_layEnergies_11 rfl (lv_at hl 0 rfl) ?_
  refine lv_iconst (v := (4 : Int32)) hx hb dX11_layEnergies_12 (by decide) ?_
  refine lv_icmp_ge (tgt := 36) hx hb dX11_layEnergies_13 (by decide) (fun c2 => absurd c2 (by decide)) (fun _ => ?_)
  refine lv_aload_n hx hb dX11_layEnergies_16 rfl (lv_at hl 1 rfl) ?_
  refine va_get (D := D) (ci := 11) (v := .ref b2) (C := RX11) (T := TX11) (N := 10) hx hb hts hinX11 hown hQ.1 hP 0 rfl rfl 0 (by decide) (hts (.fieldLink RX11 7 "HeatPumpPlantModel" "row" "[J") (List.mem_of_getElem? (i := 1) rfl)) (fun _ h9 => h9) rfl dX11_layEnergies_17 ?_
  refine lv_bipush (v := (82 : Int32)) hx hb dX11_layEnergies_20 (by decide) ?_
  refine lv_iload_n hx hb dX11_layEnergies_22 rfl (lv_at hl 0 rfl) ?_
  refine lv_iadd hx hb dX11_layEnergies_23 ?_
  refine lv_iload_n hx hb dX11_layEnergies_24 rfl (lv_at hl 2 rfl) ?_
  refine lv_i2l hx hb dX11_layEnergies_25 rfl ?_
  refine lv_iload_n hx hb dX11_layEnergies_26 rfl (lv_at hl 3 rfl) ?_
  refine lv_i2l hx hb dX11_layEnergies_27 rfl ?_
  refine lv_lmul hx hb dX11_layEnergies_28 ?_
  refine w_last (f := (vp_updL (vp_updL x1 81 p1.toInt64) 82 (p1.toInt64 * p2.toInt64))) (j := 83) hx hb hQ.1 hP hD hS 1 1 rfl rfl (by decide) (by omega) (by decide) dX11_layEnergies_29 (fun H locs hP hD hS => ?_)
  have hP : va_P D vwCl (wF [gN b0 b2 b1 x0, gR cL b2 (vp_updL (vp_updL (vp_updL x1 81 p1.toInt64) 82 (p1.toInt64 * p2.toInt64)) 83 (p1.toInt64 * p2.toInt64))]) H := hP
  have hD : va_D A (wF [gN b0 b2 b1 x0, gR cL b2 (vp_updL (vp_updL (vp_updL x1 81 p1.toInt64) 82 (p1.toInt64 * p2.toInt64)) 83 (p1.toInt64 * p2.toInt64))]) := hD
  refine lv_iinc (v := (2 : Int32)) (lv' := [(3, .int (2 : Int32)), (0, .ref b0), (1, .int p1), (2, .int p2)]) hx hb dX11_layEnergies_30 hl (k := 0) rfl (by decide) (by decide) rfl (fun ls hl => ?_)
  refine lv_goto (tgt := 11) hx hb dX11_layEnergies_33 (by decide) ?_
  refine lv_iload_n hx hb dX11_layEnergies_11 rfl (lv_at hl 0 rfl) ?_
  refine lv_iconst (v := (4 : Int32)) hx hb dX11_layEnergies_12 (by decide) ?_
  refine lv_icmp_ge (tgt := 36) hx hb dX11_layEnergies_13 (by decide) (fun c3 => absurd c3 (by decide)) (fun _ => ?_)
  refine lv_aload_n hx hb dX11_layEnergies_16 rfl (lv_at hl 1 rfl) ?_
  refine va_get (D := D) (ci := 11) (v := .ref b2) (C := RX11) (T := TX11) (N := 10) hx hb hts hinX11 hown hQ.1 hP 0 rfl rfl 0 (by decide) (hts (.fieldLink RX11 7 "HeatPumpPlantModel" "row" "[J") (List.mem_of_getElem? (i := 1) rfl)) (fun _ h9 => h9) rfl dX11_layEnergies_17 ?_
  refine lv_bipush (v := (82 : Int32)) hx hb dX11_layEnergies_20 (by decide) ?_
  refine lv_iload_n hx hb dX11_layEnergies_22 rfl (lv_at hl 0 rfl) ?_
  refine lv_iadd hx hb dX11_layEnergies_23 ?_
  refine lv_iload_n hx hb dX11_layEnergies_24 rfl (lv_at hl 2 rfl) ?_
  refine lv_i2l hx hb dX11_layEnergies_25 rfl ?_
  refine lv_iload_n hx hb dX11_layEnergies_26 rfl (lv_at hl 3 rfl) ?_
  refine lv_i2l hx hb dX11_layEnergies_27 rfl ?_
  refine lv_lmul hx hb dX11_layEnergies_28 ?_
  refine w_last (f := (vp_updL (vp_updL (vp_updL x1 81 p1.toInt64) 82 (p1.toInt64 * p2.toInt64)) 83 (p1.toInt64 * p2.toInt64))) (j := 84) hx hb hQ.1 hP hD hS 1 1 rfl rfl (by decide) (by omega) (by decide) dX11_layEnergies_29 (fun H locs hP hD hS => ?_)
  have hP : va_P D vwCl (wF [gN b0 b2 b1 x0, gR cL b2 (vp_updL (vp_updL (vp_updL (vp_updL x1 81 p1.toInt64) 82 (p1.toInt64 * p2.toInt64)) 83 (p1.toInt64 * p2.toInt64)) 84 (p1.toInt64 * p2.toInt64))]) H := hP
  have hD : va_D A (wF [gN b0 b2 b1 x0, gR cL b2 (vp_updL (vp_updL (vp_updL (vp_updL x1 81 p1.toInt64) 82 (p1.toInt64 * p2.toInt64)) 83 (p1.toInt64 * p2.toInt64)) 84 (p1.toInt64 * p2.toInt64))]) := hD
  refine lv_iinc (v := (3 : Int32)) (lv' := [(3, .int (3 : Int32)), (0, .ref b0), (1, .int p1), (2, .int p2)]) hx hb dX11_layEnergies_30 hl (k := 0) rfl (by decide) (by decide) rfl (fun ls hl => ?_)
  refine lv_goto (tgt := 11) hx hb dX11_layEnergies_33 (by decide) ?_
  refine lv_iload_n hx hb dX11_layEnergies_11 rfl (lv_at hl 0 rfl) ?_
  refine lv_iconst (v := (4 : Int32)) hx hb dX11_layEnergies_12 (by decide) ?_
  refine lv_icmp_ge (tgt := 36) hx hb dX11_layEnergies_13 (by decide) (fun c4 => absurd c4 (by decide)) (fun _ => ?_)
  refine lv_aload_n hx hb dX11_layEnergies_16 rfl (lv_at hl 1 rfl) ?_
  refine va_get (D := D) (ci := 11) (v := .ref b2) (C := RX11) (T := TX11) (N := 10) hx hb hts hinX11 hown hQ.1 hP 0 rfl rfl 0 (by decide) (hts (.fieldLink RX11 7 "HeatPumpPlantModel" "row" "[J") (List.mem_of_getElem? (i := 1) rfl)) (fun _ h9 => h9) rfl dX11_layEnergies_17 ?_
  refine lv_bipush (v := (82 : Int32)) hx hb dX11_layEnergies_20 (by decide) ?_
  refine lv_iload_n hx hb dX11_layEnergies_22 rfl (lv_at hl 0 rfl) ?_
  refine lv_iadd hx hb dX11_layEnergies_23 ?_
  refine lv_iload_n hx hb dX11_layEnergies_24 rfl (lv_at hl 2 rfl) ?_
  refine lv_i2l hx hb dX11_layEnergies_25 rfl ?_
  refine lv_iload_n hx hb dX11_layEnergies_26 rfl (lv_at hl 3 rfl) ?_
  refine lv_i2l hx hb dX11_layEnergies_27 rfl ?_
  refine lv_lmul hx hb dX11_layEnergies_28 ?_
  refine w_last (f := (vp_updL (vp_updL (vp_updL (vp_updL x1 81 p1.toInt64) 82 (p1.toInt64 * p2.toInt64)) 83 (p1.toInt64 * p2.toInt64)) 84 (p1.toInt64 * p2.toInt64))) (j := 85) hx hb hQ.1 hP hD hS 1 1 rfl rfl (by decide) (by omega) (by decide) dX11_layEnergies_29 (fun H locs hP hD hS => ?_)
  have hP : va_P D vwCl (wF [gN b0 b2 b1 x0, gR cL b2 (vp_updL (vp_updL (vp_updL (vp_updL (vp_updL x1 81 p1.toInt64) 82 (p1.toInt64 * p2.toInt64)) 83 (p1.toInt64 * p2.toInt64)) 84 (p1.toInt64 * p2.toInt64)) 85 (p1.toInt64 * p2.toInt64))]) H := hP
  have hD : va_D A (wF [gN b0 b2 b1 x0, gR cL b2 (vp_updL (vp_updL (vp_updL (vp_updL (vp_updL x1 81 p1.toInt64) 82 (p1.toInt64 * p2.toInt64)) 83 (p1.toInt64 * p2.toInt64)) 84 (p1.toInt64 * p2.toInt64)) 85 (p1.toInt64 * p2.toInt64))]) := hD
  refine lv_iinc (v := (4 : Int32)) (lv' := [(3, .int (4 : Int32)), (0, .ref b0), (1, .int p1), (2, .int p2)]) hx hb dX11_layEnergies_30 hl (k := 0) rfl (by decide) (by decide) rfl (fun ls hl => ?_)
  refine lv_goto (tgt := 11) hx hb dX11_layEnergies_33 (by decide) ?_
  refine lv_iload_n hx hb dX11_layEnergies_11 rfl (lv_at hl 0 rfl) ?_
  refine lv_iconst (v := (4 : Int32)) hx hb dX11_layEnergies_12 (by decide) ?_
  refine lv_icmp_ge (tgt := 36) hx hb dX11_layEnergies_13 (by decide) (fun _ => ?_) (fun c5 => absurd c5 (by decide))
  exact W.vret hx hb hr (fun t ht hW => ⟨⟨(vp_updL (vp_updL (vp_updL (vp_updL (vp_updL x1 81 p1.toInt64) 82 (p1.toInt64 * p2.toInt64)) 83 (p1.toInt64 * p2.toInt64)) 84 (p1.toInt64 * p2.toInt64)) 85 (p1.toInt64 * p2.toInt64)), rfl, ((rfl).symm), by rw [ht]; exact hP, hD⟩, hS.F ht⟩) hS.2.2 dX11_layEnergies_36
def K11_fill_2 (x0 : MoN) (x1 : (Nat → Int64)) (p1 : Int32) (p2 : Int32) (z3 : Int32 × MoN × (Nat → Int64)) (z4 : (Nat → Int64)) : Int32 × MoN × (Nat → Int64) := ((nI z3.2.1.1), (z3.2.1, z4))
def K11_fill_1 (x0 : MoN) (x1 : (Nat → Int64)) (p1 : Int32) (p2 : Int32) (z3 : Int32 × MoN × (Nat → Int64)) : Int32 × MoN × (Nat → Int64) := (K11_fill_2 x0 x1 p1 p2 z3 (F11_layEnergies z3.2.2 p1 p2))
def F11_fill (x0 : MoN) (x1 : (Nat → Int64)) (p1 : Int32) (p2 : Int32) : Int32 × MoN × (Nat → Int64) := (if (F11_in p1.toInt64 (100 : Int64) (5000 : Int64)) = true then (if (F11_in p2.toInt64 (0 : Int64) (700 : Int64)) = true then (K11_fill_1 x0 x1 p1 p2 (F11_records x0 x1)) else ((-1 : Int32), (x0, x1))) else ((-1 : Int32), (x0, x1)))
set_option maxHeartbeats 4000000 in
set_option maxRecDepth 100000 in
theorem m11_fill (l : Launch) (D : va_G) (cI cL cP : ClassId) (b0 : Nat) (b1 : Nat) (b2 : Nat) (x0 : MoN) (x1 : (Nat → Int64)) (p1 : Int32) (p2 : Int32) (hk : x0.1 ≤ 4) (sz : Nat) : Met l yX11_fill wsX11_fill ({ frames := 2, cells := 0, slots := 0, locals := 44 }) (va_Pc [.ref b0, .int p1, .int p2] (pM D cI cL cP sz (wF [gN b0 b2 b1 x0, gR cL b2 x1]))) (va_Qi (fun (r : Int32) (w : MoN × (Nat → Int64)) => (r, w) = F11_fill x0 x1 p1 p2) (qW D (va_A (wF [gN b0 b2 b1 x0, gR cL b2 x1]) sz) (fun w : MoN × (Nat → Int64) => (wF [gN b0 b2 b1 w.1, gR cL b2 w.2]))) (va_A (wF [gN b0 b2 b1 x0, gR cL b2 x1]) sz)) 0 0 (va_A (wF [gN b0 b2 b1 x0, gR cL b2 x1]) sz) := by
  refine Met.ofW (cc := cX11_fill) (maxL := 3) (ret := (some .int)) (by decide) rfl ?_
  intro p e s m args below meth c s₁ B hml hv
  obtain ⟨rfl, hsz, hP, hQ, hD0⟩ := hv
  have hx := B.exec
  have hb := B.bytes
  have hr := B.returns
  have hts := atoms_spec (ws := wsX11_fill) B.pre
  have hown : s.vm.findClass RX11 = some m.cls := findClass_of_methodNamed B.named
  have hlocks := B.notSynchronized
  subst hsz
  have hD := hD0.self (sz := s.heap.size)
  generalize hAe : va_A (wF [gN b0 b2 b1 x0, gR cL b2 x1]) s.heap.size = A at hD ⊢
  have hA : ∀ q : Nat, s.heap.size ≤ q → A q := fun q h => by rw [← hAe]; exact Or.inr h
  have hS : va_S A s.heap s.heap [] := va_S.rf
  have hP : va_P D vwCl (wF [gN b0 b2 b1 x0, gR cL b2 x1]) s.heap := hP
  have hl := lv_entry ([.ref b0, .int p1, .int p2]) (n := 3) (Nat.le_of_ble_eq_true rfl)
  rw [lg_entry_eq]
  generalize (lg_sl ([.ref b0, .int p1, .int p2]) ++ List.replicate (3 - (lg_sl ([.ref b0, .int p1, .int p2])).length) Slot.unset).toArray = ls at hl ⊢
  have hl : lv_has ls 3 [(0, .ref b0), (1, .int p1), (2, .int p2)] := hl
  have hinX11 : ∀ w ∈ wsX110, w ∈ wsX11_fill := fun _ h => List.mem_cons_of_mem _ (List.mem_append_right _ h)
  refine lv_iload_n hx hb dX11_fill_0 rfl (lv_at hl 1 rfl) ?_
  refine lv_i2l hx hb dX11_fill_1 rfl ?_
  refine lv_ldc2 (own := RX11) (index := 107) (v := (100 : Int64)) hx hb hown (hts (.constantLong RX11 107 (100)) (List.mem_of_getElem? (i := 1) rfl)) dX11_fill_2 ?_
  refine lv_ldc2 (own := RX11) (index := 109) (v := (5000 : Int64)) hx hb hown (hts (.constantLong RX11 109 (5000)) (List.mem_of_getElem? (i := 2) rfl)) dX11_fill_5 ?_
  have hPc : va_P D vwCl (wF []) s.heap := hP.sub [] rfl
  refine c_Ri (va_runS (As := [.long p1.toInt64, .long (100 : Int64), .long (5000 : Int64)]) (rest := []) ⟨hx, hb, hml, hown, hts⟩ (m11_in l D cI cL cP p1.toInt64 (100 : Int64) (5000 : Int64) s.heap) (va_cwS 3 hts gX11_fill_X11_in rfl rfl rfl (by decide +kernel) ⟨Nat.le_of_ble_eq_true rfl, Nat.le_of_ble_eq_true rfl⟩) (preR_S hQ hPc) rfl rfl hl.1 rfl (lv_room (Nat.le_of_ble_eq_true rfl)) dX11_fill_8 ⟨Nat.le_of_ble_eq_true rfl, Nat.le_of_ble_eq_true rfl⟩) hS (fun locs hS => ?_)
  refine lv_if_eq (tgt := 26) hx hb dX11_fill_11 (by decide) (fun c1 => ?_) (fun c1 => ?_)
  · have c1 : ¬ ((F11_in p1.toInt64 (100 : Int64) (5000 : Int64)) = true) := bI_0.mp c1
    refine lv_iconst (v := (-1 : Int32)) hx hb dX11_fill_26 (by decide) ?_
    exact W.iret (v := (-1 : Int32)) hx hb hr (fun t ht hW => ⟨⟨(-1 : Int32), (x0, x1), rfl, ((Eq.trans (if_neg c1) (rfl)).symm), by rw [ht]; exact hP, hD⟩, hS.F ht⟩) hS.2.2 dX11_fill_27
  · have c1 : (F11_in p1.toInt64 (100 : Int64) (5000 : Int64)) = true := bI_1.mp c1
    refine lv_iload_n hx hb dX11_fill_14 rfl (lv_at hl 2 rfl) ?_
    refine lv_i2l hx hb dX11_fill_15 rfl ?_
    refine lv_lconst (v := (0 : Int64)) hx hb dX11_fill_16 rfl ?_
    refine lv_ldc2 (own := RX11) (index := 111) (v := (700 : Int64)) hx hb hown (hts (.constantLong RX11 111 (700)) (List.mem_of_getElem? (i := 3) rfl)) dX11_fill_17 ?_
    have hPc : va_P D vwCl (wF []) s.heap := hP.sub [] rfl
    refine c_Ri (va_runS (As := [.long p2.toInt64, .long (0 : Int64), .long (700 : Int64)]) (rest := []) ⟨hx, hb, hml, hown, hts⟩ (m11_in l D cI cL cP p2.toInt64 (0 : Int64) (700 : Int64) s.heap) (va_cwS 3 hts gX11_fill_X11_in rfl rfl rfl (by decide +kernel) ⟨Nat.le_of_ble_eq_true rfl, Nat.le_of_ble_eq_true rfl⟩) (preR_S hQ hPc) rfl rfl hl.1 rfl (lv_room (Nat.le_of_ble_eq_true rfl)) dX11_fill_20 ⟨Nat.le_of_ble_eq_true rfl, Nat.le_of_ble_eq_true rfl⟩) hS (fun locs hS => ?_)
    refine lv_if_ne (tgt := 28) hx hb dX11_fill_23 (by decide) (fun c2 => ?_) (fun c2 => ?_)
    · have c2 : (F11_in p2.toInt64 (0 : Int64) (700 : Int64)) = true := bI_1.mp c2
      refine lv_aload_n hx hb dX11_fill_28 rfl (lv_at hl 0 rfl) ?_
      have hPc : va_P D vwCl (wF [gN b0 b2 b1 x0, gR cL b2 x1]) s.heap := w_psub hP [0, 1] rfl
      have hDc : va_D A (wF [gN b0 b2 b1 x0, gR cL b2 x1]) := w_gsub hD [0, 1] rfl rfl
      refine c_Mi (F := F11_records x0 x1) (G1 := (fun w => [gN b0 b2 b1 w.1, gR cL b2 w.2])) (Gr := []) (Gs' := fun z3 => [gN b0 b2 b1 z3.2.1, gR cL b2 z3.2.2]) (va_runV (As := []) (rest := []) ⟨hx, hb, hml, hown, hts⟩ (m11_records l D cI cL cP b0 b1 b2 x0 x1 (by omega) s.heap.size) (cwV 0 hts gX11_fill_X11_records rfl rfl rfl (by decide +kernel) ⟨Nat.le_of_ble_eq_true rfl, Nat.le_of_ble_eq_true rfl⟩) (preM_V (q := (RX11, TX11, 10)) (q0 := 0) hQ hPc hDc rfl rfl) rfl rfl hl.1 rfl (lv_room (Nat.le_of_ble_eq_true rfl)) dX11_fill_29 ⟨Nat.le_of_ble_eq_true rfl, Nat.le_of_ble_eq_true rfl⟩) hS hA hP hD [0, 1] [] [0, 1] rfl rfl rfl rfl rfl (fun _ => rfl) (fun z3 H locs hz3 hP hD hS => ?_)
      have hP : va_P D vwCl (wF [gN b0 b2 b1 z3.2.1, gR cL b2 z3.2.2]) H := hP
      have hD : va_D A (wF [gN b0 b2 b1 z3.2.1, gR cL b2 z3.2.2]) := hD
      refine lv_pop hx hb dX11_fill_32 rfl ?_
      refine lv_aload_n hx hb dX11_fill_33 rfl (lv_at hl 0 rfl) ?_
      refine lv_iload_n hx hb dX11_fill_34 rfl (lv_at hl 1 rfl) ?_
      refine lv_iload_n hx hb dX11_fill_35 rfl (lv_at hl 2 rfl) ?_
      have hPc : va_P D vwCl (wF [gN b0 b2 b1 z3.2.1, gR cL b2 z3.2.2]) H := w_psub hP [0, 1] rfl
      have hDc : va_D A (wF [gN b0 b2 b1 z3.2.1, gR cL b2 z3.2.2]) := w_gsub hD [0, 1] rfl rfl
      refine c_Mv (F := F11_layEnergies z3.2.2 p1 p2) (G1 := (fun w => [gN b0 b2 b1 z3.2.1, gR cL b2 w])) (Gr := []) (Gs' := fun z4 => [gN b0 b2 b1 z3.2.1, gR cL b2 z4]) (va_runV (As := [.int p1, .int p2]) (rest := []) ⟨hx, hb, hml, hown, hts⟩ (m11_layEnergies l D cI cL cP b0 b1 b2 z3.2.1 z3.2.2 p1 p2 H.size) (cwV 2 hts gX11_fill_X11_layEnergies rfl rfl rfl (by decide +kernel) ⟨Nat.le_of_ble_eq_true rfl, Nat.le_of_ble_eq_true rfl⟩) (preM_V (q := (RX11, TX11, 10)) (q0 := 0) hQ hPc hDc rfl rfl) rfl rfl hl.1 rfl (lv_room (Nat.le_of_ble_eq_true rfl)) dX11_fill_36 ⟨Nat.le_of_ble_eq_true rfl, Nat.le_of_ble_eq_true rfl⟩) hS hA hP hD [0, 1] [] [0, 1] rfl rfl rfl rfl rfl (fun _ => rfl) (fun z4 H locs hz4 hP hD hS => ?_)
      have hP : va_P D vwCl (wF [gN b0 b2 b1 z3.2.1, gR cL b2 z4]) H := hP
      have hD : va_D A (wF [gN b0 b2 b1 z3.2.1, gR cL b2 z4]) := hD
      refine lv_aload_n hx hb dX11_fill_39 rfl (lv_at hl 0 rfl) ?_
      refine va_get (D := D) (ci := 11) (v := .int (nI z3.2.1.1)) (C := RX11) (T := TX11) (N := 10) hx hb hts hinX11 hown hQ.1 hP 0 rfl rfl 1 (by decide) (hts (.fieldLink RX11 47 "HeatPumpPlantModel" "kept" "I") (List.mem_of_getElem? (i := 4) rfl)) (fun _ h9 => h9) rfl dX11_fill_40 ?_
      exact W.iret (v := (nI z3.2.1.1)) hx hb hr (fun t ht hW => ⟨⟨(nI z3.2.1.1), (z3.2.1, z4), rfl, ((Eq.trans (if_pos c1) (Eq.trans (if_pos c2) (Eq.trans (congrArg (K11_fill_1 x0 x1 p1 p2) hz3.symm) (Eq.trans (congrArg (K11_fill_2 x0 x1 p1 p2 z3) hz4.symm) (rfl))))).symm), by rw [ht]; exact hP, hD⟩, hS.F ht⟩) hS.2.2 dX11_fill_43
    · have c2 : ¬ ((F11_in p2.toInt64 (0 : Int64) (700 : Int64)) = true) := bI_0.mp c2
      refine lv_iconst (v := (-1 : Int32)) hx hb dX11_fill_26 (by decide) ?_
      exact W.iret (v := (-1 : Int32)) hx hb hr (fun t ht hW => ⟨⟨(-1 : Int32), (x0, x1), rfl, ((Eq.trans (if_pos c1) (Eq.trans (if_neg c2) (rfl))).symm), by rw [ht]; exact hP, hD⟩, hS.F ht⟩) hS.2.2 dX11_fill_27
def F11_warmth (x1 : (Nat → Int64)) (p1 : Nat) : Int64 := (F11_div (x1 (82 + p1)) (x1 81))
set_option maxHeartbeats 4000000 in
set_option maxRecDepth 100000 in
theorem m11_warmth (l : Launch) (D : va_G) (cI cL cP : ClassId) (b0 : Nat) (b1 : Nat) (b2 : Nat) (x0 : MoN) (x1 : (Nat → Int64)) (p1 : Nat) (hp : p1 < 4) (h81 : ¬ x1 81 = 0) (H0 : Heap) : Met l yX11_warmth wsX11_warmth ({ frames := 1, cells := 0, slots := 0, locals := 25 }) (va_Pc [.ref b0, .int (nI p1)] (pR D cI cL cP H0 (wF [gN b0 b2 b1 x0, gR cL b2 x1]))) (va_Ql (fun (r : Int64) (_ : Unit) => r = F11_warmth x1 p1) (qE H0) nF) 0 0 nF := by
  refine Met.ofW (cc := cX11_warmth) (maxL := 2) (ret := (some .long)) (by decide) rfl ?_
  intro p e s m args below meth c s₁ B hml hv
  obtain ⟨rfl, rfl, hP, hQ⟩ := hv
  have hx := B.exec
  have hb := B.bytes
  have hr := B.returns
  have hts := atoms_spec (ws := wsX11_warmth) B.pre
  have hown : s.vm.findClass RX11 = some m.cls := findClass_of_methodNamed B.named
  have hlocks := B.notSynchronized
  have hS : va_S nF s.heap s.heap [] := va_S.rf
  have hl := lv_entry ([.ref b0, .int (nI p1)]) (n := 2) (Nat.le_of_ble_eq_true rfl)
  rw [lg_entry_eq]
  generalize (lg_sl ([.ref b0, .int (nI p1)]) ++ List.replicate (2 - (lg_sl ([.ref b0, .int (nI p1)])).length) Slot.unset).toArray = ls at hl ⊢
  have hl : lv_has ls 2 [(0, .ref b0), (1, .int (nI p1))] := hl
  have hinX11 : ∀ w ∈ wsX110, w ∈ wsX11_warmth := fun _ h => List.mem_cons_of_mem _ (List.mem_append_right _ h)
  refine lv_aload_n hx hb dX11_warmth_0 rfl (lv_at hl 0 rfl) ?_
  refine va_get (D := D) (ci := 11) (v := .ref b2) (C := RX11) (T := TX11) (N := 10) hx hb hts hinX11 hown hQ.1 hP 0 rfl rfl 0 (by decide) (hts (.fieldLink RX11 7 "HeatPumpPlantModel" "row" "[J") (List.mem_of_getElem? (i := 1) rfl)) (fun _ h9 => h9) rfl dX11_warmth_1 ?_
  refine lv_bipush (v := (82 : Int32)) hx hb dX11_warmth_4 (by decide) ?_
  refine lv_iload_n hx hb dX11_warmth_6 rfl (lv_at hl 1 rfl) ?_
  refine lv_iadd hx hb dX11_warmth_7 ?_
  refine w_lald (f := x1) (j := (82 + p1)) hx hb hQ.1 hP 1 1 rfl rfl ((congr (congrArg HAdd.hAdd (show (82 : Int32) = nI 82 from (rfl : (82 : Int32) = nI 82))) (show (nI p1) = nI p1 from rfl)).trans (nI_add 82 p1)) (by omega) (by decide) dX11_warmth_8 ?_
  refine lv_aload_n hx hb dX11_warmth_9 rfl (lv_at hl 0 rfl) ?_
  refine va_get (D := D) (ci := 11) (v := .ref b2) (C := RX11) (T := TX11) (N := 10) hx hb hts hinX11 hown hQ.1 hP 0 rfl rfl 0 (by decide) (hts (.fieldLink RX11 7 "HeatPumpPlantModel" "row" "[J") (List.mem_of_getElem? (i := 1) rfl)) (fun _ h9 => h9) rfl dX11_warmth_10 ?_
  refine lv_bipush (v := (81 : Int32)) hx hb dX11_warmth_13 (by decide) ?_
  refine w_lald (f := x1) (j := 81) hx hb hQ.1 hP 1 1 rfl rfl (rfl : (81 : Int32) = nI 81) (by omega) (by decide) dX11_warmth_15 ?_
  have hPc : va_P D vwCl (wF []) s.heap := hP.sub [] rfl
  refine c_Rl (va_runS (As := [.long (x1 (82 + p1)), .long (x1 81)]) (rest := []) ⟨hx, hb, hml, hown, hts⟩ (m11_div l D cI cL cP (x1 (82 + p1)) (x1 81) h81 s.heap) (va_cwS 2 hts gX11_warmth_X11_div rfl rfl rfl (by decide +kernel) ⟨Nat.le_of_ble_eq_true rfl, Nat.le_of_ble_eq_true rfl⟩) (preR_S hQ hPc) rfl rfl hl.1 rfl (lv_room (Nat.le_of_ble_eq_true rfl)) dX11_warmth_16 ⟨Nat.le_of_ble_eq_true rfl, Nat.le_of_ble_eq_true rfl⟩) hS (fun locs hS => ?_)
  exact W.lret (v := (F11_div (x1 (82 + p1)) (x1 81))) hx hb hr (fun t ht hW => ⟨⟨(F11_div (x1 (82 + p1)) (x1 81)), (), rfl, ((rfl).symm), ht⟩, hS.F ht⟩) hS.2.2 dX11_warmth_19
def F11_temperature (x1 : (Nat → Int64)) (p1 : Int32) : Int32 := (if (F11_in p1.toInt64 (0 : Int64) (3 : Int64)) = true then ((F11_warmth x1 (p1.toNatClampNeg)).toInt32) else (-9999 : Int32))
set_option maxHeartbeats 4000000 in
set_option maxRecDepth 100000 in
theorem m11_temperature (l : Launch) (D : va_G) (cI cL cP : ClassId) (b0 : Nat) (b1 : Nat) (b2 : Nat) (x0 : MoN) (x1 : (Nat → Int64)) (p1 : Int32) (h81 : ¬ x1 81 = 0) (H0 : Heap) : Met l yX11_temperature wsX11_temperature ({ frames := 2, cells := 0, slots := 0, locals := 46 }) (va_Pc [.ref b0, .int p1] (pR D cI cL cP H0 (wF [gN b0 b2 b1 x0, gR cL b2 x1]))) (va_Qi (fun (r : Int32) (_ : Unit) => r = F11_temperature x1 p1) (qE H0) nF) 0 0 nF := by
  refine Met.ofW (cc := cX11_temperature) (maxL := 2) (ret := (some .int)) (by decide) rfl ?_
  intro p e s m args below meth c s₁ B hml hv
  obtain ⟨rfl, rfl, hP, hQ⟩ := hv
  have hx := B.exec
  have hb := B.bytes
  have hr := B.returns
  have hts := atoms_spec (ws := wsX11_temperature) B.pre
  have hown : s.vm.findClass RX11 = some m.cls := findClass_of_methodNamed B.named
  have hlocks := B.notSynchronized
  have hS : va_S nF s.heap s.heap [] := va_S.rf
  have hl := lv_entry ([.ref b0, .int p1]) (n := 2) (Nat.le_of_ble_eq_true rfl)
  rw [lg_entry_eq]
  generalize (lg_sl ([.ref b0, .int p1]) ++ List.replicate (2 - (lg_sl ([.ref b0, .int p1])).length) Slot.unset).toArray = ls at hl ⊢
  have hl : lv_has ls 2 [(0, .ref b0), (1, .int p1)] := hl
  have hinX11 : ∀ w ∈ wsX110, w ∈ wsX11_temperature := fun _ h => List.mem_cons_of_mem _ (List.mem_append_right _ h)
  refine lv_iload_n hx hb dX11_temperature_0 rfl (lv_at hl 1 rfl) ?_
  refine lv_i2l hx hb dX11_temperature_1 rfl ?_
  refine lv_lconst (v := (0 : Int64)) hx hb dX11_temperature_2 rfl ?_
  refine lv_ldc2 (own := RX11) (index := 113) (v := (3 : Int64)) hx hb hown (hts (.constantLong RX11 113 (3)) (List.mem_of_getElem? (i := 1) rfl)) dX11_temperature_3 ?_
  have hPc : va_P D vwCl (wF []) s.heap := hP.sub [] rfl
  refine c_Ri (va_runS (As := [.long p1.toInt64, .long (0 : Int64), .long (3 : Int64)]) (rest := []) ⟨hx, hb, hml, hown, hts⟩ (m11_in l D cI cL cP p1.toInt64 (0 : Int64) (3 : Int64) s.heap) (va_cwS 3 hts gX11_temperature_X11_in rfl rfl rfl (by decide +kernel) ⟨Nat.le_of_ble_eq_true rfl, Nat.le_of_ble_eq_true rfl⟩) (preR_S hQ hPc) rfl rfl hl.1 rfl (lv_room (Nat.le_of_ble_eq_true rfl)) dX11_temperature_6 ⟨Nat.le_of_ble_eq_true rfl, Nat.le_of_ble_eq_true rfl⟩) hS (fun locs hS => ?_)
  refine lv_if_eq (tgt := 21) hx hb dX11_temperature_9 (by decide) (fun c1 => ?_) (fun c1 => ?_)
  · have c1 : ¬ ((F11_in p1.toInt64 (0 : Int64) (3 : Int64)) = true) := bI_0.mp c1
    refine lv_sipush (v := (-9999 : Int32)) hx hb dX11_temperature_21 (by decide) ?_
    exact W.iret (v := (-9999 : Int32)) hx hb hr (fun t ht hW => ⟨⟨(-9999 : Int32), (), rfl, ((Eq.trans (if_neg c1) (rfl)).symm), ht⟩, hS.F ht⟩) hS.2.2 dX11_temperature_24
  · have c1 : (F11_in p1.toInt64 (0 : Int64) (3 : Int64)) = true := bI_1.mp c1
    refine lv_aload_n hx hb dX11_temperature_12 rfl (lv_at hl 0 rfl) ?_
    refine lv_iload_n hx hb dX11_temperature_13 rfl (lv_at hl 1 rfl) ?_
    refine w_topn (p1.toNatClampNeg) (w_inN c1 (by decide)) ?_
    have hPc : va_P D vwCl (wF [gN b0 b2 b1 x0, gR cL b2 x1]) s.heap := hP.sub [0, 1] rfl
    refine c_Rl (va_runV (As := [.int (nI (p1.toNatClampNeg))]) (rest := []) ⟨hx, hb, hml, hown, hts⟩ (m11_warmth l D cI cL cP b0 b1 b2 x0 x1 (p1.toNatClampNeg) (w_inL c1 (by decide) (by decide)) h81 s.heap) (cwV 1 hts gX11_temperature_X11_warmth rfl rfl rfl (by decide +kernel) ⟨Nat.le_of_ble_eq_true rfl, Nat.le_of_ble_eq_true rfl⟩) (preR_V (q := (RX11, TX11, 10)) (q0 := 0) hQ hPc rfl rfl) rfl rfl hl.1 rfl (lv_room (Nat.le_of_ble_eq_true rfl)) dX11_temperature_14 ⟨Nat.le_of_ble_eq_true rfl, Nat.le_of_ble_eq_true rfl⟩) hS (fun locs hS => ?_)
    refine lv_l2i hx hb dX11_temperature_17 rfl ?_
    refine lv_goto (tgt := 24) hx hb dX11_temperature_18 (by decide) ?_
    exact W.iret (v := (F11_warmth x1 (p1.toNatClampNeg)).toInt32) hx hb hr (fun t ht hW => ⟨⟨(F11_warmth x1 (p1.toNatClampNeg)).toInt32, (), rfl, ((Eq.trans (if_pos c1) (rfl)).symm), ht⟩, hS.F ht⟩) hS.2.2 dX11_temperature_24
def F11_stored (x1 : (Nat → Int64)) : Int64 := ((((x1 82) + (x1 83)) + (x1 84)) + (x1 85))
set_option maxHeartbeats 4000000 in
set_option maxRecDepth 100000 in
theorem m11_stored (l : Launch) (D : va_G) (cI cL cP : ClassId) (b0 : Nat) (b1 : Nat) (b2 : Nat) (x0 : MoN) (x1 : (Nat → Int64)) (H0 : Heap) : Met l yX11_stored wsX11_stored ({ frames := 0, cells := 0, slots := 0, locals := 0 }) (va_Pc [.ref b0] (pR D cI cL cP H0 (wF [gN b0 b2 b1 x0, gR cL b2 x1]))) (va_Ql (fun (r : Int64) (_ : Unit) => r = F11_stored x1) (qE H0) nF) 0 0 nF := by
  refine Met.ofW (cc := cX11_stored) (maxL := 1) (ret := (some .long)) (by decide) rfl ?_
  intro p e s m args below meth c s₁ B hml hv
  obtain ⟨rfl, rfl, hP, hQ⟩ := hv
  have hx := B.exec
  have hb := B.bytes
  have hr := B.returns
  have hts := atoms_spec (ws := wsX11_stored) B.pre
  have hown : s.vm.findClass RX11 = some m.cls := findClass_of_methodNamed B.named
  have hlocks := B.notSynchronized
  have hS : va_S nF s.heap s.heap [] := va_S.rf
  have hl := lv_entry ([.ref b0]) (n := 1) (Nat.le_of_ble_eq_true rfl)
  rw [lg_entry_eq]
  generalize (lg_sl ([.ref b0]) ++ List.replicate (1 - (lg_sl ([.ref b0])).length) Slot.unset).toArray = ls at hl ⊢
  have hl : lv_has ls 1 [(0, .ref b0)] := hl
  have hinX11 : ∀ w ∈ wsX110, w ∈ wsX11_stored := fun _ h => List.mem_cons_of_mem _ (List.mem_append_right _ h)
  refine lv_aload_n hx hb dX11_stored_0 rfl (lv_at hl 0 rfl) ?_
  refine va_get (D := D) (ci := 11) (v := .ref b2) (C := RX11) (T := TX11) (N := 10) hx hb hts hinX11 hown hQ.1 hP 0 rfl rfl 0 (by decide) (hts (.fieldLink RX11 7 "HeatPumpPlantModel" "row" "[J") (List.mem_of_getElem? (i := 1) rfl)) (fun _ h9 => h9) rfl dX11_stored_1 ?_
  refine lv_bipush (v := (82 : Int32)) hx hb dX11_stored_4 (by decide) ?_
  refine w_lald (f := x1) (j := 82) hx hb hQ.1 hP 1 1 rfl rfl (rfl : (82 : Int32) = nI 82) (by omega) (by decide) dX11_stored_6 ?_
  refine lv_aload_n hx hb dX11_stored_7 rfl (lv_at hl 0 rfl) ?_
  refine va_get (D := D) (ci := 11) (v := .ref b2) (C := RX11) (T := TX11) (N := 10) hx hb hts hinX11 hown hQ.1 hP 0 rfl rfl 0 (by decide) (hts (.fieldLink RX11 7 "HeatPumpPlantModel" "row" "[J") (List.mem_of_getElem? (i := 1) rfl)) (fun _ h9 => h9) rfl dX11_stored_8 ?_
  refine lv_bipush (v := (83 : Int32)) hx hb dX11_stored_11 (by decide) ?_
  refine w_lald (f := x1) (j := 83) hx hb hQ.1 hP 1 1 rfl rfl (rfl : (83 : Int32) = nI 83) (by omega) (by decide) dX11_stored_13 ?_
  refine lv_ladd hx hb dX11_stored_14 ?_
  refine lv_aload_n hx hb dX11_stored_15 rfl (lv_at hl 0 rfl) ?_
  refine va_get (D := D) (ci := 11) (v := .ref b2) (C := RX11) (T := TX11) (N := 10) hx hb hts hinX11 hown hQ.1 hP 0 rfl rfl 0 (by decide) (hts (.fieldLink RX11 7 "HeatPumpPlantModel" "row" "[J") (List.mem_of_getElem? (i := 1) rfl)) (fun _ h9 => h9) rfl dX11_stored_16 ?_
  refine lv_bipush (v := (84 : Int32)) hx hb dX11_stored_19 (by decide) ?_
  refine w_lald (f := x1) (j := 84) hx hb hQ.1 hP 1 1 rfl rfl (rfl : (84 : Int32) = nI 84) (by omega) (by decide) dX11_stored_21 ?_
  refine lv_ladd hx hb dX11_stored_22 ?_
  refine lv_aload_n hx hb dX11_stored_23 rfl (lv_at hl 0 rfl) ?_
  refine va_get (D := D) (ci := 11) (v := .ref b2) (C := RX11) (T := TX11) (N := 10) hx hb hts hinX11 hown hQ.1 hP 0 rfl rfl 0 (by decide) (hts (.fieldLink RX11 7 "HeatPumpPlantModel" "row" "[J") (List.mem_of_getElem? (i := 1) rfl)) (fun _ h9 => h9) rfl dX11_stored_24 ?_
  refine lv_bipush (v := (85 : Int32)) hx hb dX11_stored_27 (by decide) ?_
  refine w_lald (f := x1) (j := 85) hx hb hQ.1 hP 1 1 rfl rfl (rfl : (85 : Int32) = nI 85) (by omega) (by decide) dX11_stored_29 ?_
  refine lv_ladd hx hb dX11_stored_30 ?_
  exact W.lret (v := ((((x1 82) + (x1 83)) + (x1 84)) + (x1 85))) hx hb hr (fun t ht hW => ⟨⟨((((x1 82) + (x1 83)) + (x1 84)) + (x1 85)), (), rfl, ((rfl).symm), ht⟩, hS.F ht⟩) hS.2.2 dX11_stored_31
def F11_time (x1 : (Nat → Int64)) : Int32 := ((x1 91).toInt32)
set_option maxHeartbeats 4000000 in
set_option maxRecDepth 100000 in
theorem m11_time (l : Launch) (D : va_G) (cI cL cP : ClassId) (b0 : Nat) (b1 : Nat) (b2 : Nat) (x0 : MoN) (x1 : (Nat → Int64)) (H0 : Heap) : Met l yX11_time wsX11_time ({ frames := 0, cells := 0, slots := 0, locals := 0 }) (va_Pc [.ref b0] (pR D cI cL cP H0 (wF [gN b0 b2 b1 x0, gR cL b2 x1]))) (va_Qi (fun (r : Int32) (_ : Unit) => r = F11_time x1) (qE H0) nF) 0 0 nF := by
  refine Met.ofW (cc := cX11_time) (maxL := 1) (ret := (some .int)) (by decide) rfl ?_
  intro p e s m args below meth c s₁ B hml hv
  obtain ⟨rfl, rfl, hP, hQ⟩ := hv
  have hx := B.exec
  have hb := B.bytes
  have hr := B.returns
  have hts := atoms_spec (ws := wsX11_time) B.pre
  have hown : s.vm.findClass RX11 = some m.cls := findClass_of_methodNamed B.named
  have hlocks := B.notSynchronized
  have hS : va_S nF s.heap s.heap [] := va_S.rf
  have hl := lv_entry ([.ref b0]) (n := 1) (Nat.le_of_ble_eq_true rfl)
  rw [lg_entry_eq]
  generalize (lg_sl ([.ref b0]) ++ List.replicate (1 - (lg_sl ([.ref b0])).length) Slot.unset).toArray = ls at hl ⊢
  have hl : lv_has ls 1 [(0, .ref b0)] := hl
  have hinX11 : ∀ w ∈ wsX110, w ∈ wsX11_time := fun _ h => List.mem_cons_of_mem _ (List.mem_append_right _ h)
  refine lv_aload_n hx hb dX11_time_0 rfl (lv_at hl 0 rfl) ?_
  refine va_get (D := D) (ci := 11) (v := .ref b2) (C := RX11) (T := TX11) (N := 10) hx hb hts hinX11 hown hQ.1 hP 0 rfl rfl 0 (by decide) (hts (.fieldLink RX11 7 "HeatPumpPlantModel" "row" "[J") (List.mem_of_getElem? (i := 1) rfl)) (fun _ h9 => h9) rfl dX11_time_1 ?_
  refine lv_bipush (v := (91 : Int32)) hx hb dX11_time_4 (by decide) ?_
  refine w_lald (f := x1) (j := 91) hx hb hQ.1 hP 1 1 rfl rfl (rfl : (91 : Int32) = nI 91) (by omega) (by decide) dX11_time_6 ?_
  refine lv_l2i hx hb dX11_time_7 rfl ?_
  exact W.iret (v := (x1 91).toInt32) hx hb hr (fun t ht hW => ⟨⟨(x1 91).toInt32, (), rfl, ((rfl).symm), ht⟩, hS.F ht⟩) hS.2.2 dX11_time_8
def F11_pump (x1 : (Nat → Int64)) : Int32 := ((x1 86).toInt32)
set_option maxHeartbeats 4000000 in
set_option maxRecDepth 100000 in
theorem m11_pump (l : Launch) (D : va_G) (cI cL cP : ClassId) (b0 : Nat) (b1 : Nat) (b2 : Nat) (x0 : MoN) (x1 : (Nat → Int64)) (H0 : Heap) : Met l yX11_pump wsX11_pump ({ frames := 0, cells := 0, slots := 0, locals := 0 }) (va_Pc [.ref b0] (pR D cI cL cP H0 (wF [gN b0 b2 b1 x0, gR cL b2 x1]))) (va_Qi (fun (r : Int32) (_ : Unit) => r = F11_pump x1) (qE H0) nF) 0 0 nF := by
  refine Met.ofW (cc := cX11_pump) (maxL := 1) (ret := (some .int)) (by decide) rfl ?_
  intro p e s m args below meth c s₁ B hml hv
  obtain ⟨rfl, rfl, hP, hQ⟩ := hv
  have hx := B.exec
  have hb := B.bytes
  have hr := B.returns
  have hts := atoms_spec (ws := wsX11_pump) B.pre
  have hown : s.vm.findClass RX11 = some m.cls := findClass_of_methodNamed B.named
  have hlocks := B.notSynchronized
  have hS : va_S nF s.heap s.heap [] := va_S.rf
  have hl := lv_entry ([.ref b0]) (n := 1) (Nat.le_of_ble_eq_true rfl)
  rw [lg_entry_eq]
  generalize (lg_sl ([.ref b0]) ++ List.replicate (1 - (lg_sl ([.ref b0])).length) Slot.unset).toArray = ls at hl ⊢
  have hl : lv_has ls 1 [(0, .ref b0)] := hl
  have hinX11 : ∀ w ∈ wsX110, w ∈ wsX11_pump := fun _ h => List.mem_cons_of_mem _ (List.mem_append_right _ h)
  refine lv_aload_n hx hb dX11_pump_0 rfl (lv_at hl 0 rfl) ?_
  refine va_get (D := D) (ci := 11) (v := .ref b2) (C := RX11) (T := TX11) (N := 10) hx hb hts hinX11 hown hQ.1 hP 0 rfl rfl 0 (by decide) (hts (.fieldLink RX11 7 "HeatPumpPlantModel" "row" "[J") (List.mem_of_getElem? (i := 1) rfl)) (fun _ h9 => h9) rfl dX11_pump_1 ?_
  refine lv_bipush (v := (86 : Int32)) hx hb dX11_pump_4 (by decide) ?_
  refine w_lald (f := x1) (j := 86) hx hb hQ.1 hP 1 1 rfl rfl (rfl : (86 : Int32) = nI 86) (by omega) (by decide) dX11_pump_6 ?_
  refine lv_l2i hx hb dX11_pump_7 rfl ?_
  exact W.iret (v := (x1 86).toInt32) hx hb hr (fun t ht hW => ⟨⟨(x1 86).toInt32, (), rfl, ((rfl).symm), ht⟩, hS.F ht⟩) hS.2.2 dX11_pump_8
def F11_reason (x1 : (Nat → Int64)) : Int32 := ((x1 92).toInt32)
set_option maxHeartbeats 4000000 in
set_option maxRecDepth 100000 in
theorem m11_reason (l : Launch) (D : va_G) (cI cL cP : ClassId) (b0 : Nat) (b1 : Nat) (b2 : Nat) (x0 : MoN) (x1 : (Nat → Int64)) (H0 : Heap) : Met l yX11_reason wsX11_reason ({ frames := 0, cells := 0, slots := 0, locals := 0 }) (va_Pc [.ref b0] (pR D cI cL cP H0 (wF [gN b0 b2 b1 x0, gR cL b2 x1]))) (va_Qi (fun (r : Int32) (_ : Unit) => r = F11_reason x1) (qE H0) nF) 0 0 nF := by
  refine Met.ofW (cc := cX11_reason) (maxL := 1) (ret := (some .int)) (by decide) rfl ?_
  intro p e s m args below meth c s₁ B hml hv
  obtain ⟨rfl, rfl, hP, hQ⟩ := hv
  have hx := B.exec
  have hb := B.bytes
  have hr := B.returns
  have hts := atoms_spec (ws := wsX11_reason) B.pre
  have hown : s.vm.findClass RX11 = some m.cls := findClass_of_methodNamed B.named
  have hlocks := B.notSynchronized
  have hS : va_S nF s.heap s.heap [] := va_S.rf
  have hl := lv_entry ([.ref b0]) (n := 1) (Nat.le_of_ble_eq_true rfl)
  rw [lg_entry_eq]
  generalize (lg_sl ([.ref b0]) ++ List.replicate (1 - (lg_sl ([.ref b0])).length) Slot.unset).toArray = ls at hl ⊢
  have hl : lv_has ls 1 [(0, .ref b0)] := hl
  have hinX11 : ∀ w ∈ wsX110, w ∈ wsX11_reason := fun _ h => List.mem_cons_of_mem _ (List.mem_append_right _ h)
  refine lv_aload_n hx hb dX11_reason_0 rfl (lv_at hl 0 rfl) ?_
  refine va_get (D := D) (ci := 11) (v := .ref b2) (C := RX11) (T := TX11) (N := 10) hx hb hts hinX11 hown hQ.1 hP 0 rfl rfl 0 (by decide) (hts (.fieldLink RX11 7 "HeatPumpPlantModel" "row" "[J") (List.mem_of_getElem? (i := 1) rfl)) (fun _ h9 => h9) rfl dX11_reason_1 ?_
  refine lv_bipush (v := (92 : Int32)) hx hb dX11_reason_4 (by decide) ?_
  refine w_lald (f := x1) (j := 92) hx hb hQ.1 hP 1 1 rfl rfl (rfl : (92 : Int32) = nI 92) (by omega) (by decide) dX11_reason_6 ?_
  refine lv_l2i hx hb dX11_reason_7 rfl ?_
  exact W.iret (v := (x1 92).toInt32) hx hb hr (fun t ht hW => ⟨⟨(x1 92).toInt32, (), rfl, ((rfl).symm), ht⟩, hS.F ht⟩) hS.2.2 dX11_reason_8
def F11_starts (x1 : (Nat → Int64)) : Int32 := ((x1 105).toInt32)
set_option maxHeartbeats 4000000 in
set_option maxRecDepth 100000 in
theorem m11_starts (l : Launch) (D : va_G) (cI cL cP : ClassId) (b0 : Nat) (b1 : Nat) (b2 : Nat) (x0 : MoN) (x1 : (Nat → Int64)) (H0 : Heap) : Met l yX11_starts wsX11_starts ({ frames := 0, cells := 0, slots := 0, locals := 0 }) (va_Pc [.ref b0] (pR D cI cL cP H0 (wF [gN b0 b2 b1 x0, gR cL b2 x1]))) (va_Qi (fun (r : Int32) (_ : Unit) => r = F11_starts x1) (qE H0) nF) 0 0 nF := by
  refine Met.ofW (cc := cX11_starts) (maxL := 1) (ret := (some .int)) (by decide) rfl ?_
  intro p e s m args below meth c s₁ B hml hv
  obtain ⟨rfl, rfl, hP, hQ⟩ := hv
  have hx := B.exec
  have hb := B.bytes
  have hr := B.returns
  have hts := atoms_spec (ws := wsX11_starts) B.pre
  have hown : s.vm.findClass RX11 = some m.cls := findClass_of_methodNamed B.named
  have hlocks := B.notSynchronized
  have hS : va_S nF s.heap s.heap [] := va_S.rf
  have hl := lv_entry ([.ref b0]) (n := 1) (Nat.le_of_ble_eq_true rfl)
  rw [lg_entry_eq]
  generalize (lg_sl ([.ref b0]) ++ List.replicate (1 - (lg_sl ([.ref b0])).length) Slot.unset).toArray = ls at hl ⊢
  have hl : lv_has ls 1 [(0, .ref b0)] := hl
  have hinX11 : ∀ w ∈ wsX110, w ∈ wsX11_starts := fun _ h => List.mem_cons_of_mem _ (List.mem_append_right _ h)
  refine lv_aload_n hx hb dX11_starts_0 rfl (lv_at hl 0 rfl) ?_
  refine va_get (D := D) (ci := 11) (v := .ref b2) (C := RX11) (T := TX11) (N := 10) hx hb hts hinX11 hown hQ.1 hP 0 rfl rfl 0 (by decide) (hts (.fieldLink RX11 7 "HeatPumpPlantModel" "row" "[J") (List.mem_of_getElem? (i := 1) rfl)) (fun _ h9 => h9) rfl dX11_starts_1 ?_
  refine lv_bipush (v := (105 : Int32)) hx hb dX11_starts_4 (by decide) ?_
  refine w_lald (f := x1) (j := 105) hx hb hQ.1 hP 1 1 rfl rfl (rfl : (105 : Int32) = nI 105) (by omega) (by decide) dX11_starts_6 ?_
  refine lv_l2i hx hb dX11_starts_7 rfl ?_
  exact W.iret (v := (x1 105).toInt32) hx hb hr (fun t ht hW => ⟨⟨(x1 105).toInt32, (), rfl, ((rfl).symm), ht⟩, hS.F ht⟩) hS.2.2 dX11_starts_8
def F11_defrosts (x1 : (Nat → Int64)) : Int32 := ((x1 106).toInt32)
set_option maxHeartbeats 4000000 in
set_option maxRecDepth 100000 in
theorem m11_defrosts (l : Launch) (D : va_G) (cI cL cP : ClassId) (b0 : Nat) (b1 : Nat) (b2 : Nat) (x0 : MoN) (x1 : (Nat → Int64)) (H0 : Heap) : Met l yX11_defrosts wsX11_defrosts ({ frames := 0, cells := 0, slots := 0, locals := 0 }) (va_Pc [.ref b0] (pR D cI cL cP H0 (wF [gN b0 b2 b1 x0, gR cL b2 x1]))) (va_Qi (fun (r : Int32) (_ : Unit) => r = F11_defrosts x1) (qE H0) nF) 0 0 nF := by
  refine Met.ofW (cc := cX11_defrosts) (maxL := 1) (ret := (some .int)) (by decide) rfl ?_
  intro p e s m args below meth c s₁ B hml hv
  obtain ⟨rfl, rfl, hP, hQ⟩ := hv
  have hx := B.exec
  have hb := B.bytes
  have hr := B.returns
  have hts := atoms_spec (ws := wsX11_defrosts) B.pre
  have hown : s.vm.findClass RX11 = some m.cls := findClass_of_methodNamed B.named
  have hlocks := B.notSynchronized
  have hS : va_S nF s.heap s.heap [] := va_S.rf
  have hl := lv_entry ([.ref b0]) (n := 1) (Nat.le_of_ble_eq_true rfl)
  rw [lg_entry_eq]
  generalize (lg_sl ([.ref b0]) ++ List.replicate (1 - (lg_sl ([.ref b0])).length) Slot.unset).toArray = ls at hl ⊢
  have hl : lv_has ls 1 [(0, .ref b0)] := hl
  have hinX11 : ∀ w ∈ wsX110, w ∈ wsX11_defrosts := fun _ h => List.mem_cons_of_mem _ (List.mem_append_right _ h)
  refine lv_aload_n hx hb dX11_defrosts_0 rfl (lv_at hl 0 rfl) ?_
  refine va_get (D := D) (ci := 11) (v := .ref b2) (C := RX11) (T := TX11) (N := 10) hx hb hts hinX11 hown hQ.1 hP 0 rfl rfl 0 (by decide) (hts (.fieldLink RX11 7 "HeatPumpPlantModel" "row" "[J") (List.mem_of_getElem? (i := 1) rfl)) (fun _ h9 => h9) rfl dX11_defrosts_1 ?_
  refine lv_bipush (v := (106 : Int32)) hx hb dX11_defrosts_4 (by decide) ?_
  refine w_lald (f := x1) (j := 106) hx hb hQ.1 hP 1 1 rfl rfl (rfl : (106 : Int32) = nI 106) (by omega) (by decide) dX11_defrosts_6 ?_
  refine lv_l2i hx hb dX11_defrosts_7 rfl ?_
  exact W.iret (v := (x1 106).toInt32) hx hb hr (fun t ht hW => ⟨⟨(x1 106).toInt32, (), rfl, ((rfl).symm), ht⟩, hS.F ht⟩) hS.2.2 dX11_defrosts_8
def F11_frost (x1 : (Nat → Int64)) : Int32 := ((x1 89).toInt32)
set_option maxHeartbeats 4000000 in
set_option maxRecDepth 100000 in
theorem m11_frost (l : Launch) (D : va_G) (cI cL cP : ClassId) (b0 : Nat) (b1 : Nat) (b2 : Nat) (x0 : MoN) (x1 : (Nat → Int64)) (H0 : Heap) : Met l yX11_frost wsX11_frost ({ frames := 0, cells := 0, slots := 0, locals := 0 }) (va_Pc [.ref b0] (pR D cI cL cP H0 (wF [gN b0 b2 b1 x0, gR cL b2 x1]))) (va_Qi (fun (r : Int32) (_ : Unit) => r = F11_frost x1) (qE H0) nF) 0 0 nF := by
  refine Met.ofW (cc := cX11_frost) (maxL := 1) (ret := (some .int)) (by decide) rfl ?_
  intro p e s m args below meth c s₁ B hml hv
  obtain ⟨rfl, rfl, hP, hQ⟩ := hv
  have hx := B.exec
  have hb := B.bytes
  have hr := B.returns
  have hts := atoms_spec (ws := wsX11_frost) B.pre
  have hown : s.vm.findClass RX11 = some m.cls := findClass_of_methodNamed B.named
  have hlocks := B.notSynchronized
  have hS : va_S nF s.heap s.heap [] := va_S.rf
  have hl := lv_entry ([.ref b0]) (n := 1) (Nat.le_of_ble_eq_true rfl)
  rw [lg_entry_eq]
  generalize (lg_sl ([.ref b0]) ++ List.replicate (1 - (lg_sl ([.ref b0])).length) Slot.unset).toArray = ls at hl ⊢
  have hl : lv_has ls 1 [(0, .ref b0)] := hl
  have hinX11 : ∀ w ∈ wsX110, w ∈ wsX11_frost := fun _ h => List.mem_cons_of_mem _ (List.mem_append_right _ h)
  refine lv_aload_n hx hb dX11_frost_0 rfl (lv_at hl 0 rfl) ?_
  refine va_get (D := D) (ci := 11) (v := .ref b2) (C := RX11) (T := TX11) (N := 10) hx hb hts hinX11 hown hQ.1 hP 0 rfl rfl 0 (by decide) (hts (.fieldLink RX11 7 "HeatPumpPlantModel" "row" "[J") (List.mem_of_getElem? (i := 1) rfl)) (fun _ h9 => h9) rfl dX11_frost_1 ?_
  refine lv_bipush (v := (89 : Int32)) hx hb dX11_frost_4 (by decide) ?_
  refine w_lald (f := x1) (j := 89) hx hb hQ.1 hP 1 1 rfl rfl (rfl : (89 : Int32) = nI 89) (by omega) (by decide) dX11_frost_6 ?_
  refine lv_l2i hx hb dX11_frost_7 rfl ?_
  exact W.iret (v := (x1 89).toInt32) hx hb hr (fun t ht hW => ⟨⟨(x1 89).toInt32, (), rfl, ((rfl).symm), ht⟩, hS.F ht⟩) hS.2.2 dX11_frost_8
def F11_produced (x1 : (Nat → Int64)) : Int64 := (x1 107)
set_option maxHeartbeats 4000000 in
set_option maxRecDepth 100000 in
theorem m11_produced (l : Launch) (D : va_G) (cI cL cP : ClassId) (b0 : Nat) (b1 : Nat) (b2 : Nat) (x0 : MoN) (x1 : (Nat → Int64)) (H0 : Heap) : Met l yX11_produced wsX11_produced ({ frames := 0, cells := 0, slots := 0, locals := 0 }) (va_Pc [.ref b0] (pR D cI cL cP H0 (wF [gN b0 b2 b1 x0, gR cL b2 x1]))) (va_Ql (fun (r : Int64) (_ : Unit) => r = F11_produced x1) (qE H0) nF) 0 0 nF := by
  refine Met.ofW (cc := cX11_produced) (maxL := 1) (ret := (some .long)) (by decide) rfl ?_
  intro p e s m args below meth c s₁ B hml hv
  obtain ⟨rfl, rfl, hP, hQ⟩ := hv
  have hx := B.exec
  have hb := B.bytes
  have hr := B.returns
  have hts := atoms_spec (ws := wsX11_produced) B.pre
  have hown : s.vm.findClass RX11 = some m.cls := findClass_of_methodNamed B.named
  have hlocks := B.notSynchronized
  have hS : va_S nF s.heap s.heap [] := va_S.rf
  have hl := lv_entry ([.ref b0]) (n := 1) (Nat.le_of_ble_eq_true rfl)
  rw [lg_entry_eq]
  generalize (lg_sl ([.ref b0]) ++ List.replicate (1 - (lg_sl ([.ref b0])).length) Slot.unset).toArray = ls at hl ⊢
  have hl : lv_has ls 1 [(0, .ref b0)] := hl
  have hinX11 : ∀ w ∈ wsX110, w ∈ wsX11_produced := fun _ h => List.mem_cons_of_mem _ (List.mem_append_right _ h)
  refine lv_aload_n hx hb dX11_produced_0 rfl (lv_at hl 0 rfl) ?_
  refine va_get (D := D) (ci := 11) (v := .ref b2) (C := RX11) (T := TX11) (N := 10) hx hb hts hinX11 hown hQ.1 hP 0 rfl rfl 0 (by decide) (hts (.fieldLink RX11 7 "HeatPumpPlantModel" "row" "[J") (List.mem_of_getElem? (i := 1) rfl)) (fun _ h9 => h9) rfl dX11_produced_1 ?_
  refine lv_bipush (v := (107 : Int32)) hx hb dX11_produced_4 (by decide) ?_
  refine w_lald (f := x1) (j := 107) hx hb hQ.1 hP 1 1 rfl rfl (rfl : (107 : Int32) = nI 107) (by omega) (by decide) dX11_produced_6 ?_
  exact W.lret (v := (x1 107)) hx hb hr (fun t ht hW => ⟨⟨(x1 107), (), rfl, ((rfl).symm), ht⟩, hS.F ht⟩) hS.2.2 dX11_produced_7
def F11_defrostHeat (x1 : (Nat → Int64)) : Int64 := (x1 108)
set_option maxHeartbeats 4000000 in
set_option maxRecDepth 100000 in
theorem m11_defrostHeat (l : Launch) (D : va_G) (cI cL cP : ClassId) (b0 : Nat) (b1 : Nat) (b2 : Nat) (x0 : MoN) (x1 : (Nat → Int64)) (H0 : Heap) : Met l yX11_defrostHeat wsX11_defrostHeat ({ frames := 0, cells := 0, slots := 0, locals := 0 }) (va_Pc [.ref b0] (pR D cI cL cP H0 (wF [gN b0 b2 b1 x0, gR cL b2 x1]))) (va_Ql (fun (r : Int64) (_ : Unit) => r = F11_defrostHeat x1) (qE H0) nF) 0 0 nF := by
  refine Met.ofW (cc := cX11_defrostHeat) (maxL := 1) (ret := (some .long)) (by decide) rfl ?_
  intro p e s m args below meth c s₁ B hml hv
  obtain ⟨rfl, rfl, hP, hQ⟩ := hv
  have hx := B.exec
  have hb := B.bytes
  have hr := B.returns
  have hts := atoms_spec (ws := wsX11_defrostHeat) B.pre
  have hown : s.vm.findClass RX11 = some m.cls := findClass_of_methodNamed B.named
  have hlocks := B.notSynchronized
  have hS : va_S nF s.heap s.heap [] := va_S.rf
  have hl := lv_entry ([.ref b0]) (n := 1) (Nat.le_of_ble_eq_true rfl)
  rw [lg_entry_eq]
  generalize (lg_sl ([.ref b0]) ++ List.replicate (1 - (lg_sl ([.ref b0])).length) Slot.unset).toArray = ls at hl ⊢
  have hl : lv_has ls 1 [(0, .ref b0)] := hl
  have hinX11 : ∀ w ∈ wsX110, w ∈ wsX11_defrostHeat := fun _ h => List.mem_cons_of_mem _ (List.mem_append_right _ h)
  refine lv_aload_n hx hb dX11_defrostHeat_0 rfl (lv_at hl 0 rfl) ?_
  refine va_get (D := D) (ci := 11) (v := .ref b2) (C := RX11) (T := TX11) (N := 10) hx hb hts hinX11 hown hQ.1 hP 0 rfl rfl 0 (by decide) (hts (.fieldLink RX11 7 "HeatPumpPlantModel" "row" "[J") (List.mem_of_getElem? (i := 1) rfl)) (fun _ h9 => h9) rfl dX11_defrostHeat_1 ?_
  refine lv_bipush (v := (108 : Int32)) hx hb dX11_defrostHeat_4 (by decide) ?_
  refine w_lald (f := x1) (j := 108) hx hb hQ.1 hP 1 1 rfl rfl (rfl : (108 : Int32) = nI 108) (by omega) (by decide) dX11_defrostHeat_6 ?_
  exact W.lret (v := (x1 108)) hx hb hr (fun t ht hW => ⟨⟨(x1 108), (), rfl, ((rfl).symm), ht⟩, hS.F ht⟩) hS.2.2 dX11_defrostHeat_7
def F11_drawn (x1 : (Nat → Int64)) : Int64 := (x1 109)
set_option maxHeartbeats 4000000 in
set_option maxRecDepth 100000 in
theorem m11_drawn (l : Launch) (D : va_G) (cI cL cP : ClassId) (b0 : Nat) (b1 : Nat) (b2 : Nat) (x0 : MoN) (x1 : (Nat → Int64)) (H0 : Heap) : Met l yX11_drawn wsX11_drawn ({ frames := 0, cells := 0, slots := 0, locals := 0 }) (va_Pc [.ref b0] (pR D cI cL cP H0 (wF [gN b0 b2 b1 x0, gR cL b2 x1]))) (va_Ql (fun (r : Int64) (_ : Unit) => r = F11_drawn x1) (qE H0) nF) 0 0 nF := by
  refine Met.ofW (cc := cX11_drawn) (maxL := 1) (ret := (some .long)) (by decide) rfl ?_
  intro p e s m args below meth c s₁ B hml hv
  obtain ⟨rfl, rfl, hP, hQ⟩ := hv
  have hx := B.exec
  have hb := B.bytes
  have hr := B.returns
  have hts := atoms_spec (ws := wsX11_drawn) B.pre
  have hown : s.vm.findClass RX11 = some m.cls := findClass_of_methodNamed B.named
  have hlocks := B.notSynchronized
  have hS : va_S nF s.heap s.heap [] := va_S.rf
  have hl := lv_entry ([.ref b0]) (n := 1) (Nat.le_of_ble_eq_true rfl)
  rw [lg_entry_eq]
  generalize (lg_sl ([.ref b0]) ++ List.replicate (1 - (lg_sl ([.ref b0])).length) Slot.unset).toArray = ls at hl ⊢
  have hl : lv_has ls 1 [(0, .ref b0)] := hl
  have hinX11 : ∀ w ∈ wsX110, w ∈ wsX11_drawn := fun _ h => List.mem_cons_of_mem _ (List.mem_append_right _ h)
  refine lv_aload_n hx hb dX11_drawn_0 rfl (lv_at hl 0 rfl) ?_
  refine va_get (D := D) (ci := 11) (v := .ref b2) (C := RX11) (T := TX11) (N := 10) hx hb hts hinX11 hown hQ.1 hP 0 rfl rfl 0 (by decide) (hts (.fieldLink RX11 7 "HeatPumpPlantModel" "row" "[J") (List.mem_of_getElem? (i := 1) rfl)) (fun _ h9 => h9) rfl dX11_drawn_1 ?_
  refine lv_bipush (v := (109 : Int32)) hx hb dX11_drawn_4 (by decide) ?_
  refine w_lald (f := x1) (j := 109) hx hb hQ.1 hP 1 1 rfl rfl (rfl : (109 : Int32) = nI 109) (by omega) (by decide) dX11_drawn_6 ?_
  exact W.lret (v := (x1 109)) hx hb hr (fun t ht hW => ⟨⟨(x1 109), (), rfl, ((rfl).symm), ht⟩, hS.F ht⟩) hS.2.2 dX11_drawn_7
def F11_unmet (x1 : (Nat → Int64)) : Int64 := (x1 110)
set_option maxHeartbeats 4000000 in
set_option maxRecDepth 100000 in
theorem m11_unmet (l : Launch) (D : va_G) (cI cL cP : ClassId) (b0 : Nat) (b1 : Nat) (b2 : Nat) (x0 : MoN) (x1 : (Nat → Int64)) (H0 : Heap) : Met l yX11_unmet wsX11_unmet ({ frames := 0, cells := 0, slots := 0, locals := 0 }) (va_Pc [.ref b0] (pR D cI cL cP H0 (wF [gN b0 b2 b1 x0, gR cL b2 x1]))) (va_Ql (fun (r : Int64) (_ : Unit) => r = F11_unmet x1) (qE H0) nF) 0 0 nF := by
  refine Met.ofW (cc := cX11_unmet) (maxL := 1) (ret := (some .long)) (by decide) rfl ?_
  intro p e s m args below meth c s₁ B hml hv
  obtain ⟨rfl, rfl, hP, hQ⟩ := hv
  have hx := B.exec
  have hb := B.bytes
  have hr := B.returns
  have hts := atoms_spec (ws := wsX11_unmet) B.pre
  have hown : s.vm.findClass RX11 = some m.cls := findClass_of_methodNamed B.named
  have hlocks := B.notSynchronized
  have hS : va_S nF s.heap s.heap [] := va_S.rf
  have hl := lv_entry ([.ref b0]) (n := 1) (Nat.le_of_ble_eq_true rfl)
  rw [lg_entry_eq]
  generalize (lg_sl ([.ref b0]) ++ List.replicate (1 - (lg_sl ([.ref b0])).length) Slot.unset).toArray = ls at hl ⊢
  have hl : lv_has ls 1 [(0, .ref b0)] := hl
  have hinX11 : ∀ w ∈ wsX110, w ∈ wsX11_unmet := fun _ h => List.mem_cons_of_mem _ (List.mem_append_right _ h)
  refine lv_aload_n hx hb dX11_unmet_0 rfl (lv_at hl 0 rfl) ?_
  refine va_get (D := D) (ci := 11) (v := .ref b2) (C := RX11) (T := TX11) (N := 10) hx hb hts hinX11 hown hQ.1 hP 0 rfl rfl 0 (by decide) (hts (.fieldLink RX11 7 "HeatPumpPlantModel" "row" "[J") (List.mem_of_getElem? (i := 1) rfl)) (fun _ h9 => h9) rfl dX11_unmet_1 ?_
  refine lv_bipush (v := (110 : Int32)) hx hb dX11_unmet_4 (by decide) ?_
  refine w_lald (f := x1) (j := 110) hx hb hQ.1 hP 1 1 rfl rfl (rfl : (110 : Int32) = nI 110) (by omega) (by decide) dX11_unmet_6 ?_
  exact W.lret (v := (x1 110)) hx hb hr (fun t ht hW => ⟨⟨(x1 110), (), rfl, ((rfl).symm), ht⟩, hS.F ht⟩) hS.2.2 dX11_unmet_7
def F11_lost (x1 : (Nat → Int64)) : Int64 := (x1 111)
set_option maxHeartbeats 4000000 in
set_option maxRecDepth 100000 in
theorem m11_lost (l : Launch) (D : va_G) (cI cL cP : ClassId) (b0 : Nat) (b1 : Nat) (b2 : Nat) (x0 : MoN) (x1 : (Nat → Int64)) (H0 : Heap) : Met l yX11_lost wsX11_lost ({ frames := 0, cells := 0, slots := 0, locals := 0 }) (va_Pc [.ref b0] (pR D cI cL cP H0 (wF [gN b0 b2 b1 x0, gR cL b2 x1]))) (va_Ql (fun (r : Int64) (_ : Unit) => r = F11_lost x1) (qE H0) nF) 0 0 nF := by
  refine Met.ofW (cc := cX11_lost) (maxL := 1) (ret := (some .long)) (by decide) rfl ?_
  intro p e s m args below meth c s₁ B hml hv
  obtain ⟨rfl, rfl, hP, hQ⟩ := hv
  have hx := B.exec
  have hb := B.bytes
  have hr := B.returns
  have hts := atoms_spec (ws := wsX11_lost) B.pre
  have hown : s.vm.findClass RX11 = some m.cls := findClass_of_methodNamed B.named
  have hlocks := B.notSynchronized
  have hS : va_S nF s.heap s.heap [] := va_S.rf
  have hl := lv_entry ([.ref b0]) (n := 1) (Nat.le_of_ble_eq_true rfl)
  rw [lg_entry_eq]
  generalize (lg_sl ([.ref b0]) ++ List.replicate (1 - (lg_sl ([.ref b0])).length) Slot.unset).toArray = ls at hl ⊢
  have hl : lv_has ls 1 [(0, .ref b0)] := hl
  have hinX11 : ∀ w ∈ wsX110, w ∈ wsX11_lost := fun _ h => List.mem_cons_of_mem _ (List.mem_append_right _ h)
  refine lv_aload_n hx hb dX11_lost_0 rfl (lv_at hl 0 rfl) ?_
  refine va_get (D := D) (ci := 11) (v := .ref b2) (C := RX11) (T := TX11) (N := 10) hx hb hts hinX11 hown hQ.1 hP 0 rfl rfl 0 (by decide) (hts (.fieldLink RX11 7 "HeatPumpPlantModel" "row" "[J") (List.mem_of_getElem? (i := 1) rfl)) (fun _ h9 => h9) rfl dX11_lost_1 ?_
  refine lv_bipush (v := (111 : Int32)) hx hb dX11_lost_4 (by decide) ?_
  refine w_lald (f := x1) (j := 111) hx hb hQ.1 hP 1 1 rfl rfl (rfl : (111 : Int32) = nI 111) (by omega) (by decide) dX11_lost_6 ?_
  exact W.lret (v := (x1 111)) hx hb hr (fun t ht hW => ⟨⟨(x1 111), (), rfl, ((rfl).symm), ht⟩, hS.F ht⟩) hS.2.2 dX11_lost_7
def F11_electricity (x1 : (Nat → Int64)) : Int64 := (x1 112)
set_option maxHeartbeats 4000000 in
set_option maxRecDepth 100000 in
theorem m11_electricity (l : Launch) (D : va_G) (cI cL cP : ClassId) (b0 : Nat) (b1 : Nat) (b2 : Nat) (x0 : MoN) (x1 : (Nat → Int64)) (H0 : Heap) : Met l yX11_electricity wsX11_electricity ({ frames := 0, cells := 0, slots := 0, locals := 0 }) (va_Pc [.ref b0] (pR D cI cL cP H0 (wF [gN b0 b2 b1 x0, gR cL b2 x1]))) (va_Ql (fun (r : Int64) (_ : Unit) => r = F11_electricity x1) (qE H0) nF) 0 0 nF := by
  refine Met.ofW (cc := cX11_electricity) (maxL := 1) (ret := (some .long)) (by decide) rfl ?_
  intro p e s m args below meth c s₁ B hml hv
  obtain ⟨rfl, rfl, hP, hQ⟩ := hv
  have hx := B.exec
  have hb := B.bytes
  have hr := B.returns
  have hts := atoms_spec (ws := wsX11_electricity) B.pre
  have hown : s.vm.findClass RX11 = some m.cls := findClass_of_methodNamed B.named
  have hlocks := B.notSynchronized
  have hS : va_S nF s.heap s.heap [] := va_S.rf
  have hl := lv_entry ([.ref b0]) (n := 1) (Nat.le_of_ble_eq_true rfl)
  rw [lg_entry_eq]
  generalize (lg_sl ([.ref b0]) ++ List.replicate (1 - (lg_sl ([.ref b0])).length) Slot.unset).toArray = ls at hl ⊢
  have hl : lv_has ls 1 [(0, .ref b0)] := hl
  have hinX11 : ∀ w ∈ wsX110, w ∈ wsX11_electricity := fun _ h => List.mem_cons_of_mem _ (List.mem_append_right _ h)
  refine lv_aload_n hx hb dX11_electricity_0 rfl (lv_at hl 0 rfl) ?_
  refine va_get (D := D) (ci := 11) (v := .ref b2) (C := RX11) (T := TX11) (N := 10) hx hb hts hinX11 hown hQ.1 hP 0 rfl rfl 0 (by decide) (hts (.fieldLink RX11 7 "HeatPumpPlantModel" "row" "[J") (List.mem_of_getElem? (i := 1) rfl)) (fun _ h9 => h9) rfl dX11_electricity_1 ?_
  refine lv_bipush (v := (112 : Int32)) hx hb dX11_electricity_4 (by decide) ?_
  refine w_lald (f := x1) (j := 112) hx hb hQ.1 hP 1 1 rfl rfl (rfl : (112 : Int32) = nI 112) (by omega) (by decide) dX11_electricity_6 ?_
  exact W.lret (v := (x1 112)) hx hb hr (fun t ht hW => ⟨⟨(x1 112), (), rfl, ((rfl).symm), ht⟩, hS.F ht⟩) hS.2.2 dX11_electricity_7
def F11_cost (x1 : (Nat → Int64)) : Int64 := (x1 113)
set_option maxHeartbeats 4000000 in
set_option maxRecDepth 100000 in
theorem m11_cost (l : Launch) (D : va_G) (cI cL cP : ClassId) (b0 : Nat) (b1 : Nat) (b2 : Nat) (x0 : MoN) (x1 : (Nat → Int64)) (H0 : Heap) : Met l yX11_cost wsX11_cost ({ frames := 0, cells := 0, slots := 0, locals := 0 }) (va_Pc [.ref b0] (pR D cI cL cP H0 (wF [gN b0 b2 b1 x0, gR cL b2 x1]))) (va_Ql (fun (r : Int64) (_ : Unit) => r = F11_cost x1) (qE H0) nF) 0 0 nF := by
  refine Met.ofW (cc := cX11_cost) (maxL := 1) (ret := (some .long)) (by decide) rfl ?_
  intro p e s m args below meth c s₁ B hml hv
  obtain ⟨rfl, rfl, hP, hQ⟩ := hv
  have hx := B.exec
  have hb := B.bytes
  have hr := B.returns
  have hts := atoms_spec (ws := wsX11_cost) B.pre
  have hown : s.vm.findClass RX11 = some m.cls := findClass_of_methodNamed B.named
  have hlocks := B.notSynchronized
  have hS : va_S nF s.heap s.heap [] := va_S.rf
  have hl := lv_entry ([.ref b0]) (n := 1) (Nat.le_of_ble_eq_true rfl)
  rw [lg_entry_eq]
  generalize (lg_sl ([.ref b0]) ++ List.replicate (1 - (lg_sl ([.ref b0])).length) Slot.unset).toArray = ls at hl ⊢
  have hl : lv_has ls 1 [(0, .ref b0)] := hl
  have hinX11 : ∀ w ∈ wsX110, w ∈ wsX11_cost := fun _ h => List.mem_cons_of_mem _ (List.mem_append_right _ h)
  refine lv_aload_n hx hb dX11_cost_0 rfl (lv_at hl 0 rfl) ?_
  refine va_get (D := D) (ci := 11) (v := .ref b2) (C := RX11) (T := TX11) (N := 10) hx hb hts hinX11 hown hQ.1 hP 0 rfl rfl 0 (by decide) (hts (.fieldLink RX11 7 "HeatPumpPlantModel" "row" "[J") (List.mem_of_getElem? (i := 1) rfl)) (fun _ h9 => h9) rfl dX11_cost_1 ?_
  refine lv_bipush (v := (113 : Int32)) hx hb dX11_cost_4 (by decide) ?_
  refine w_lald (f := x1) (j := 113) hx hb hQ.1 hP 1 1 rfl rfl (rfl : (113 : Int32) = nI 113) (by omega) (by decide) dX11_cost_6 ?_
  exact W.lret (v := (x1 113)) hx hb hr (fun t ht hW => ⟨⟨(x1 113), (), rfl, ((rfl).symm), ht⟩, hS.F ht⟩) hS.2.2 dX11_cost_7
def L11_startsLately_4 (x0 : MoN) (x1 : (Nat → Int64)) : Nat → Nat → Int32 → Nat × Int32
  | 0, _, _ => default
  | fu + 1, i, r => (if 60 ≤ i then (i, r) else ((L11_startsLately_4 x0 x1 fu) (i + 1) (r + (x1 (114 + i)).toInt32)))
def K11_startsLately_1 (x0 : MoN) (x1 : (Nat → Int64)) (z2 : Nat × Int32) : Int32 := z2.2
def F11_startsLately (x0 : MoN) (x1 : (Nat → Int64)) : Int32 := (K11_startsLately_1 x0 x1 (L11_startsLately_4 x0 x1 61 0 (0 : Int32)))
set_option maxHeartbeats 4000000 in
set_option maxRecDepth 100000 in
theorem m11_startsLately (l : Launch) (D : va_G) (cI cL cP : ClassId) (b0 : Nat) (b1 : Nat) (b2 : Nat) (x0 : MoN) (x1 : (Nat → Int64)) (H0 : Heap) : Met l yX11_startsLately wsX11_startsLately ({ frames := 0, cells := 0, slots := 0, locals := 0 }) (va_Pc [.ref b0] (pR D cI cL cP H0 (wF [gN b0 b2 b1 x0, gR cL b2 x1]))) (va_Qi (fun (r : Int32) (_ : Unit) => r = F11_startsLately x0 x1) (qE H0) nF) 0 0 nF := by
  refine Met.ofW (cc := cX11_startsLately) (maxL := 3) (ret := (some .int)) (by decide) rfl ?_
  intro p e s m args below meth c s₁ B hml hv
  obtain ⟨rfl, rfl, hP, hQ⟩ := hv
  have hx := B.exec
  have hb := B.bytes
  have hr := B.returns
  have hts := atoms_spec (ws := wsX11_startsLately) B.pre
  have hown : s.vm.findClass RX11 = some m.cls := findClass_of_methodNamed B.named
  have hlocks := B.notSynchronized
  have hS : va_S nF s.heap s.heap [] := va_S.rf
  have hl := lv_entry ([.ref b0]) (n := 3) (Nat.le_of_ble_eq_true rfl)
  rw [lg_entry_eq]
  generalize (lg_sl ([.ref b0]) ++ List.replicate (3 - (lg_sl ([.ref b0])).length) Slot.unset).toArray = ls at hl ⊢
  have hl : lv_has ls 3 [(0, .ref b0)] := hl
  have hinX11 : ∀ w ∈ wsX110, w ∈ wsX11_startsLately := fun _ h => List.mem_cons_of_mem _ (List.mem_append_right _ h)
  refine lv_iconst (v := (0 : Int32)) hx hb dX11_startsLately_0 (by decide) ?_
  refine lv_istore_n (lv' := [(1, .int (0 : Int32)), (0, .ref b0)]) hx hb dX11_startsLately_1 rfl hl (by decide) rfl (fun ls hl => ?_)
  refine lv_iconst (v := (0 : Int32)) hx hb dX11_startsLately_2 (by decide) ?_
  refine lv_istore_n (lv' := [(2, .int (0 : Int32)), (1, .int (0 : Int32)), (0, .ref b0)]) hx hb dX11_startsLately_3 rfl hl (by decide) rfl (fun ls hl => ?_)
  have loop4 : ∀ (fu : Nat) (i : Nat) (r : Int32) (hi : i ≤ 60) (hm : 60 - i < fu) (kk : ∀ z : Nat × Int32, z = L11_startsLately_4 x0 x1 fu i r → ((z.1) ≤ 60) → ∀ (locs : List Loc) (_ : va_S nF s.heap s.heap locs) (ls : Array Slot) (_ : lv_has ls 3 [(2, .int (nI z.1)), (1, .int z.2), (0, .ref b0)]), W p l e (headSpec wsX11_startsLately ({ frames := 0, cells := 0, slots := 0, locals := 0 })).room s m #[.ref b0] below meth c s.heap locs 0 0 (MQ below (va_Qi (fun (r : Int32) (_ : Unit) => r = F11_startsLately x0 x1) (qE s.heap) nF) #[.ref b0] s 0 0 nF) (F0 m 29 ls [])), ∀ (locs : List Loc) (_ : va_S nF s.heap s.heap locs) (ls : Array Slot) (_ : lv_has ls 3 [(2, .int (nI i)), (1, .int r), (0, .ref b0)]), W p l e (headSpec wsX11_startsLately ({ frames := 0, cells := 0, slots := 0, locals := 0 })).room s m #[.ref b0] below meth c s.heap locs 0 0 (MQ below (va_Qi (fun (r : Int32) (_ : Unit) => r = F11_startsLately x0 x1) (qE s.heap) nF) #[.ref b0] s 0 0 nF) (F0 m 4 ls []) := by
    intro fu
    induction fu with
    | zero => intro i r hi hm; exact absurd hm (by omega)
    | succ fu ih =>
      intro i r hi hm kk locs hS ls hl
      refine lv_iload_n hx hb dX11_startsLately_4 rfl (lv_at hl 0 rfl) ?_
      refine lv_bipush (v := (60 : Int32)) hx hb dX11_startsLately_5 (by decide) ?_
      refine lv_icmp_ge (tgt := 29) hx hb dX11_startsLately_7 (by decide) (fun c1 => ?_) (fun c1 => ?_)
      · have c1 : 60 ≤ i := (nI_leI (a := 60) (b := i) (by omega) (by omega)).mp c1
        exact kk (i, r) ((Eq.trans (if_pos c1) (rfl)).symm) hi locs hS ls (lv_sub hl [0, 1, 2] rfl)
      · have c1 : ¬ (60 ≤ i) := fun h9 => c1 ((nI_leI (a := 60) (b := i) (by omega) (by omega)).mpr h9)
        refine lv_iload_n hx hb dX11_startsLately_10 rfl (lv_at hl 1 rfl) ?_
        refine lv_aload_n hx hb dX11_startsLately_11 rfl (lv_at hl 2 rfl) ?_
        refine va_get (D := D) (ci := 11) (v := .ref b2) (C := RX11) (T := TX11) (N := 10) hx hb hts hinX11 hown hQ.1 hP 0 rfl rfl 0 (by decide) (hts (.fieldLink RX11 7 "HeatPumpPlantModel" "row" "[J") (List.mem_of_getElem? (i := 1) rfl)) (fun _ h9 => h9) rfl dX11_startsLately_12 ?_
        refine lv_bipush (v := (114 : Int32)) hx hb dX11_startsLately_15 (by decide) ?_
        refine lv_iload_n hx hb dX11_startsLately_17 rfl (lv_at hl 0 rfl) ?_
        refine lv_iadd hx hb dX11_startsLately_18 ?_
        refine w_lald (f := x1) (j := (114 + i)) hx hb hQ.1 hP 1 1 rfl rfl ((congr (congrArg HAdd.hAdd (show (114 : Int32) = nI 114 from (rfl : (114 : Int32) = nI 114))) (show (nI i) = nI i from rfl)).trans (nI_add 114 i)) (by omega) (by decide) dX11_startsLately_19 ?_
        refine lv_l2i hx hb dX11_startsLately_20 rfl ?_
        refine lv_iadd hx hb dX11_startsLately_21 ?_
        refine lv_istore_n (lv' := [(1, .int (r + (x1 (114 + i)).toInt32)), (2, .int (nI i)), (0, .ref b0)]) hx hb dX11_startsLately_22 rfl hl (by decide) rfl (fun ls hl => ?_)
        refine lv_iinc (v := (nI (i + 1))) (lv' := [(2, .int (nI (i + 1))), (1, .int (r + (x1 (114 + i)).toInt32)), (0, .ref b0)]) hx hb dX11_startsLately_23 hl (k := 1) rfl (nI_add i 1) (by decide) rfl (fun ls hl => ?_)
        refine lv_goto (tgt := 4) hx hb dX11_startsLately_26 (by decide) ?_
        exact ih (i + 1) (r + (x1 (114 + i)).toInt32) (by omega) (by omega) (fun z hz => kk z (hz.trans ((Eq.trans (if_neg c1) (rfl)).symm))) locs hS ls (lv_sub hl [0, 1, 2] rfl)
  refine loop4 61 0 (0 : Int32) (by omega) (by omega) (fun z2 hz2 hi_z2 locs hS ls hl => ?_) [] hS ls (lv_sub hl [0, 1, 2] rfl)
  refine lv_iload_n hx hb dX11_startsLately_29 rfl (lv_at hl 1 rfl) ?_
  exact W.iret (v := z2.2) hx hb hr (fun t ht hW => ⟨⟨z2.2, (), rfl, ((Eq.trans (congrArg (K11_startsLately_1 x0 x1) hz2.symm) (rfl)).symm), ht⟩, hS.F ht⟩) hS.2.2 dX11_startsLately_30
def F11_startsLastHour (x0 : MoN) (x1 : (Nat → Int64)) : Int32 := (F11_startsLately x0 x1)
set_option maxHeartbeats 4000000 in
set_option maxRecDepth 100000 in
theorem m11_startsLastHour (l : Launch) (D : va_G) (cI cL cP : ClassId) (b0 : Nat) (b1 : Nat) (b2 : Nat) (x0 : MoN) (x1 : (Nat → Int64)) (H0 : Heap) : Met l yX11_startsLastHour wsX11_startsLastHour ({ frames := 1, cells := 0, slots := 0, locals := 22 }) (va_Pc [.ref b0] (pR D cI cL cP H0 (wF [gN b0 b2 b1 x0, gR cL b2 x1]))) (va_Qi (fun (r : Int32) (_ : Unit) => r = F11_startsLastHour x0 x1) (qE H0) nF) 0 0 nF := by
  refine Met.ofW (cc := cX11_startsLastHour) (maxL := 1) (ret := (some .int)) (by decide) rfl ?_
  intro p e s m args below meth c s₁ B hml hv
  obtain ⟨rfl, rfl, hP, hQ⟩ := hv
  have hx := B.exec
  have hb := B.bytes
  have hr := B.returns
  have hts := atoms_spec (ws := wsX11_startsLastHour) B.pre
  have hown : s.vm.findClass RX11 = some m.cls := findClass_of_methodNamed B.named
  have hlocks := B.notSynchronized
  have hS : va_S nF s.heap s.heap [] := va_S.rf
  have hl := lv_entry ([.ref b0]) (n := 1) (Nat.le_of_ble_eq_true rfl)
  rw [lg_entry_eq]
  generalize (lg_sl ([.ref b0]) ++ List.replicate (1 - (lg_sl ([.ref b0])).length) Slot.unset).toArray = ls at hl ⊢
  have hl : lv_has ls 1 [(0, .ref b0)] := hl
  have hinX11 : ∀ w ∈ wsX110, w ∈ wsX11_startsLastHour := fun _ h => List.mem_cons_of_mem _ (List.mem_append_right _ h)
  refine lv_aload_n hx hb dX11_startsLastHour_0 rfl (lv_at hl 0 rfl) ?_
  have hPc : va_P D vwCl (wF [gN b0 b2 b1 x0, gR cL b2 x1]) s.heap := hP.sub [0, 1] rfl
  refine c_Ri (va_runV (As := []) (rest := []) ⟨hx, hb, hml, hown, hts⟩ (m11_startsLately l D cI cL cP b0 b1 b2 x0 x1 s.heap) (cwV 0 hts gX11_startsLastHour_X11_startsLately rfl rfl rfl (by decide +kernel) ⟨Nat.le_of_ble_eq_true rfl, Nat.le_of_ble_eq_true rfl⟩) (preR_V (q := (RX11, TX11, 10)) (q0 := 0) hQ hPc rfl rfl) rfl rfl hl.1 rfl (lv_room (Nat.le_of_ble_eq_true rfl)) dX11_startsLastHour_1 ⟨Nat.le_of_ble_eq_true rfl, Nat.le_of_ble_eq_true rfl⟩) hS (fun locs hS => ?_)
  exact W.iret (v := (F11_startsLately x0 x1)) hx hb hr (fun t ht hW => ⟨⟨(F11_startsLately x0 x1), (), rfl, ((rfl).symm), ht⟩, hS.F ht⟩) hS.2.2 dX11_startsLastHour_4
def F11_minutesWith (x1 : (Nat → Int64)) (p1 : Int32) : Int32 := (if (F11_in p1.toInt64 (0 : Int64) (11 : Int64)) = true then ((x1 (93 + (p1.toNatClampNeg))).toInt32) else (-1 : Int32))
set_option maxHeartbeats 4000000 in
set_option maxRecDepth 100000 in
theorem m11_minutesWith (l : Launch) (D : va_G) (cI cL cP : ClassId) (b0 : Nat) (b1 : Nat) (b2 : Nat) (x0 : MoN) (x1 : (Nat → Int64)) (p1 : Int32) (H0 : Heap) : Met l yX11_minutesWith wsX11_minutesWith ({ frames := 1, cells := 0, slots := 0, locals := 25 }) (va_Pc [.ref b0, .int p1] (pR D cI cL cP H0 (wF [gN b0 b2 b1 x0, gR cL b2 x1]))) (va_Qi (fun (r : Int32) (_ : Unit) => r = F11_minutesWith x1 p1) (qE H0) nF) 0 0 nF := by
  refine Met.ofW (cc := cX11_minutesWith) (maxL := 2) (ret := (some .int)) (by decide) rfl ?_
  intro p e s m args below meth c s₁ B hml hv
  obtain ⟨rfl, rfl, hP, hQ⟩ := hv
  have hx := B.exec
  have hb := B.bytes
  have hr := B.returns
  have hts := atoms_spec (ws := wsX11_minutesWith) B.pre
  have hown : s.vm.findClass RX11 = some m.cls := findClass_of_methodNamed B.named
  have hlocks := B.notSynchronized
  have hS : va_S nF s.heap s.heap [] := va_S.rf
  have hl := lv_entry ([.ref b0, .int p1]) (n := 2) (Nat.le_of_ble_eq_true rfl)
  rw [lg_entry_eq]
  generalize (lg_sl ([.ref b0, .int p1]) ++ List.replicate (2 - (lg_sl ([.ref b0, .int p1])).length) Slot.unset).toArray = ls at hl ⊢
  have hl : lv_has ls 2 [(0, .ref b0), (1, .int p1)] := hl
  have hinX11 : ∀ w ∈ wsX110, w ∈ wsX11_minutesWith := fun _ h => List.mem_cons_of_mem _ (List.mem_append_right _ h)
  refine lv_iload_n hx hb dX11_minutesWith_0 rfl (lv_at hl 1 rfl) ?_
  refine lv_i2l hx hb dX11_minutesWith_1 rfl ?_
  refine lv_lconst (v := (0 : Int64)) hx hb dX11_minutesWith_2 rfl ?_
  refine lv_ldc2 (own := RX11) (index := 168) (v := (11 : Int64)) hx hb hown (hts (.constantLong RX11 168 (11)) (List.mem_of_getElem? (i := 1) rfl)) dX11_minutesWith_3 ?_
  have hPc : va_P D vwCl (wF []) s.heap := hP.sub [] rfl
  refine c_Ri (va_runS (As := [.long p1.toInt64, .long (0 : Int64), .long (11 : Int64)]) (rest := []) ⟨hx, hb, hml, hown, hts⟩ (m11_in l D cI cL cP p1.toInt64 (0 : Int64) (11 : Int64) s.heap) (va_cwS 3 hts gX11_minutesWith_X11_in rfl rfl rfl (by decide +kernel) ⟨Nat.le_of_ble_eq_true rfl, Nat.le_of_ble_eq_true rfl⟩) (preR_S hQ hPc) rfl rfl hl.1 rfl (lv_room (Nat.le_of_ble_eq_true rfl)) dX11_minutesWith_6 ⟨Nat.le_of_ble_eq_true rfl, Nat.le_of_ble_eq_true rfl⟩) hS (fun locs hS => ?_)
  refine lv_if_eq (tgt := 25) hx hb dX11_minutesWith_9 (by decide) (fun c1 => ?_) (fun c1 => ?_)
  · have c1 : ¬ ((F11_in p1.toInt64 (0 : Int64) (11 : Int64)) = true) := bI_0.mp c1
    refine lv_iconst (v := (-1 : Int32)) hx hb dX11_minutesWith_25 (by decide) ?_
    exact W.iret (v := (-1 : Int32)) hx hb hr (fun t ht hW => ⟨⟨(-1 : Int32), (), rfl, ((Eq.trans (if_neg c1) (rfl)).symm), ht⟩, hS.F ht⟩) hS.2.2 dX11_minutesWith_26
  · have c1 : (F11_in p1.toInt64 (0 : Int64) (11 : Int64)) = true := bI_1.mp c1
    refine lv_aload_n hx hb dX11_minutesWith_12 rfl (lv_at hl 0 rfl) ?_
    refine va_get (D := D) (ci := 11) (v := .ref b2) (C := RX11) (T := TX11) (N := 10) hx hb hts hinX11 hown hQ.1 hP 0 rfl rfl 0 (by decide) (hts (.fieldLink RX11 7 "HeatPumpPlantModel" "row" "[J") (List.mem_of_getElem? (i := 2) rfl)) (fun _ h9 => h9) rfl dX11_minutesWith_13 ?_
    refine lv_bipush (v := (93 : Int32)) hx hb dX11_minutesWith_16 (by decide) ?_
    refine lv_iload_n hx hb dX11_minutesWith_18 rfl (lv_at hl 1 rfl) ?_
    refine w_topn (p1.toNatClampNeg) (w_inN c1 (by decide)) ?_
    refine lv_iadd hx hb dX11_minutesWith_19 ?_
    refine w_lald (f := x1) (j := (93 + (p1.toNatClampNeg))) hx hb hQ.1 hP 1 1 rfl rfl ((congr (congrArg HAdd.hAdd (show (93 : Int32) = nI 93 from (rfl : (93 : Int32) = nI 93))) (show (nI (p1.toNatClampNeg)) = nI (p1.toNatClampNeg) from rfl)).trans (nI_add 93 (p1.toNatClampNeg))) (by have h9 := w_inL (n := 12) c1 (by decide) (by decide); omega) (by decide) dX11_minutesWith_20 ?_
    refine lv_l2i hx hb dX11_minutesWith_21 rfl ?_
    refine lv_goto (tgt := 26) hx hb dX11_minutesWith_22 (by decide) ?_
    exact W.iret (v := (x1 (93 + (p1.toNatClampNeg))).toInt32) hx hb hr (fun t ht hW => ⟨⟨(x1 (93 + (p1.toNatClampNeg))).toInt32, (), rfl, ((Eq.trans (if_pos c1) (rfl)).symm), ht⟩, hS.F ht⟩) hS.2.2 dX11_minutesWith_26
def F11_ruleOn (x1 : (Nat → Int64)) (p1 : Int64) : Int32 := (if (F11_warmth x1 3) < (F11_set1 x1 4) then (if (F11_set1 x1 0) ≤ (x1 87) then (if (F11_warmth x1 0) < (p1 + (F11_set1 x1 3)) then (if (x1 89) < (F11_set1 x1 10) then (5 : Int32) else (4 : Int32)) else (3 : Int32)) else (2 : Int32)) else (1 : Int32))
set_option maxHeartbeats 4000000 in
set_option maxRecDepth 100000 in
theorem m11_ruleOn (l : Launch) (D : va_G) (cI cL cP : ClassId) (b0 : Nat) (b1 : Nat) (b2 : Nat) (x0 : MoN) (x1 : (Nat → Int64)) (p1 : Int64) (h81 : ¬ x1 81 = 0) (H0 : Heap) : Met l yX11_ruleOn wsX11_ruleOn ({ frames := 2, cells := 0, slots := 0, locals := 46 }) (va_Pc [.ref b0, .long p1] (pR D cI cL cP H0 (wF [gN b0 b2 b1 x0, gR cL b2 x1]))) (va_Qi (fun (r : Int32) (_ : Unit) => r = F11_ruleOn x1 p1) (qE H0) nF) 0 0 nF := by
  refine Met.ofW (cc := cX11_ruleOn) (maxL := 3) (ret := (some .int)) (by decide) rfl ?_
  intro p e s m args below meth c s₁ B hml hv
  obtain ⟨rfl, rfl, hP, hQ⟩ := hv
  have hx := B.exec
  have hb := B.bytes
  have hr := B.returns
  have hts := atoms_spec (ws := wsX11_ruleOn) B.pre
  have hown : s.vm.findClass RX11 = some m.cls := findClass_of_methodNamed B.named
  have hlocks := B.notSynchronized
  have hS : va_S nF s.heap s.heap [] := va_S.rf
  have hl := lv_entry ([.ref b0, .long p1]) (n := 3) (Nat.le_of_ble_eq_true rfl)
  rw [lg_entry_eq]
  generalize (lg_sl ([.ref b0, .long p1]) ++ List.replicate (3 - (lg_sl ([.ref b0, .long p1])).length) Slot.unset).toArray = ls at hl ⊢
  have hl : lv_has ls 3 [(0, .ref b0), (1, .long p1)] := hl
  have hinX11 : ∀ w ∈ wsX110, w ∈ wsX11_ruleOn := fun _ h => List.mem_cons_of_mem _ (List.mem_append_right _ h)
  refine lv_aload_n hx hb dX11_ruleOn_0 rfl (lv_at hl 0 rfl) ?_
  refine lv_iconst (v := (3 : Int32)) hx hb dX11_ruleOn_1 (by decide) ?_
  have hPc : va_P D vwCl (wF [gN b0 b2 b1 x0, gR cL b2 x1]) s.heap := hP.sub [0, 1] rfl
  refine c_Rl (va_runV (As := [.int (nI 3)]) (rest := []) ⟨hx, hb, hml, hown, hts⟩ (m11_warmth l D cI cL cP b0 b1 b2 x0 x1 3 (by omega) h81 s.heap) (cwV 1 hts gX11_ruleOn_X11_warmth rfl rfl rfl (by decide +kernel) ⟨Nat.le_of_ble_eq_true rfl, Nat.le_of_ble_eq_true rfl⟩) (preR_V (q := (RX11, TX11, 10)) (q0 := 0) hQ hPc rfl rfl) rfl rfl hl.1 rfl (lv_room (Nat.le_of_ble_eq_true rfl)) dX11_ruleOn_2 ⟨Nat.le_of_ble_eq_true rfl, Nat.le_of_ble_eq_true rfl⟩) hS (fun locs hS => ?_)
  refine lv_aload_n hx hb dX11_ruleOn_5 rfl (lv_at hl 0 rfl) ?_
  refine lv_iconst (v := (4 : Int32)) hx hb dX11_ruleOn_6 (by decide) ?_
  have hPc : va_P D vwCl (wF [gN b0 b2 b1 x0, gR cL b2 x1]) s.heap := hP.sub [0, 1] rfl
  refine c_Rl (va_runV (As := [.int (nI 4)]) (rest := [.long (F11_warmth x1 3)]) ⟨hx, hb, hml, hown, hts⟩ (m11_set1 l D cI cL cP b0 b1 b2 x0 x1 4 (by omega) s.heap) (cwV 1 hts gX11_ruleOn_X11_set1 rfl rfl rfl (by decide +kernel) ⟨Nat.le_of_ble_eq_true rfl, Nat.le_of_ble_eq_true rfl⟩) (preR_V (q := (RX11, TX11, 10)) (q0 := 0) hQ hPc rfl rfl) rfl rfl hl.1 rfl (lv_room (Nat.le_of_ble_eq_true rfl)) dX11_ruleOn_7 ⟨Nat.le_of_ble_eq_true rfl, Nat.le_of_ble_eq_true rfl⟩) hS (fun locs hS => ?_)
  refine w_llt (tgt := 16) hx hb dX11_ruleOn_10 dX11_ruleOn_11 (by decide) (fun c1 => ?_) (fun c1 => ?_)
  · have c1 : (F11_warmth x1 3) < (F11_set1 x1 4) := c1
    refine lv_aload_n hx hb dX11_ruleOn_16 rfl (lv_at hl 0 rfl) ?_
    refine va_get (D := D) (ci := 11) (v := .ref b2) (C := RX11) (T := TX11) (N := 10) hx hb hts hinX11 hown hQ.1 hP 0 rfl rfl 0 (by decide) (hts (.fieldLink RX11 7 "HeatPumpPlantModel" "row" "[J") (List.mem_of_getElem? (i := 1) rfl)) (fun _ h9 => h9) rfl dX11_ruleOn_17 ?_
    refine lv_bipush (v := (87 : Int32)) hx hb dX11_ruleOn_20 (by decide) ?_
    refine w_lald (f := x1) (j := 87) hx hb hQ.1 hP 1 1 rfl rfl (rfl : (87 : Int32) = nI 87) (by omega) (by decide) dX11_ruleOn_22 ?_
    refine lv_aload_n hx hb dX11_ruleOn_23 rfl (lv_at hl 0 rfl) ?_
    refine lv_iconst (v := (0 : Int32)) hx hb dX11_ruleOn_24 (by decide) ?_
    have hPc : va_P D vwCl (wF [gN b0 b2 b1 x0, gR cL b2 x1]) s.heap := hP.sub [0, 1] rfl
    refine c_Rl (va_runV (As := [.int (nI 0)]) (rest := [.long (x1 87)]) ⟨hx, hb, hml, hown, hts⟩ (m11_set1 l D cI cL cP b0 b1 b2 x0 x1 0 (by omega) s.heap) (cwV 1 hts gX11_ruleOn_X11_set1 rfl rfl rfl (by decide +kernel) ⟨Nat.le_of_ble_eq_true rfl, Nat.le_of_ble_eq_true rfl⟩) (preR_V (q := (RX11, TX11, 10)) (q0 := 0) hQ hPc rfl rfl) rfl rfl hl.1 rfl (lv_room (Nat.le_of_ble_eq_true rfl)) dX11_ruleOn_25 ⟨Nat.le_of_ble_eq_true rfl, Nat.le_of_ble_eq_true rfl⟩) hS (fun locs hS => ?_)
    refine w_lge (tgt := 34) hx hb dX11_ruleOn_28 dX11_ruleOn_29 (by decide) (fun c2 => ?_) (fun c2 => ?_)
    · have c2 : (F11_set1 x1 0) ≤ (x1 87) := c2
      refine lv_aload_n hx hb dX11_ruleOn_34 rfl (lv_at hl 0 rfl) ?_
      refine lv_iconst (v := (0 : Int32)) hx hb dX11_ruleOn_35 (by decide) ?_
      have hPc : va_P D vwCl (wF [gN b0 b2 b1 x0, gR cL b2 x1]) s.heap := hP.sub [0, 1] rfl
      refine c_Rl (va_runV (As := [.int (nI 0)]) (rest := []) ⟨hx, hb, hml, hown, hts⟩ (m11_warmth l D cI cL cP b0 b1 b2 x0 x1 0 (by omega) h81 s.heap) (cwV 1 hts gX11_ruleOn_X11_warmth rfl rfl rfl (by decide +kernel) ⟨Nat.le_of_ble_eq_true rfl, Nat.le_of_ble_eq_true rfl⟩) (preR_V (q := (RX11, TX11, 10)) (q0 := 0) hQ hPc rfl rfl) rfl rfl hl.1 rfl (lv_room (Nat.le_of_ble_eq_true rfl)) dX11_ruleOn_36 ⟨Nat.le_of_ble_eq_true rfl, Nat.le_of_ble_eq_true rfl⟩) hS (fun locs hS => ?_)
      refine lv_lload_n hx hb dX11_ruleOn_39 rfl (lv_at hl 1 rfl) ?_
      refine lv_aload_n hx hb dX11_ruleOn_40 rfl (lv_at hl 0 rfl) ?_
      refine lv_iconst (v := (3 : Int32)) hx hb dX11_ruleOn_41 (by decide) ?_
      have hPc : va_P D vwCl (wF [gN b0 b2 b1 x0, gR cL b2 x1]) s.heap := hP.sub [0, 1] rfl
      refine c_Rl (va_runV (As := [.int (nI 3)]) (rest := [.long p1, .long (F11_warmth x1 0)]) ⟨hx, hb, hml, hown, hts⟩ (m11_set1 l D cI cL cP b0 b1 b2 x0 x1 3 (by omega) s.heap) (cwV 1 hts gX11_ruleOn_X11_set1 rfl rfl rfl (by decide +kernel) ⟨Nat.le_of_ble_eq_true rfl, Nat.le_of_ble_eq_true rfl⟩) (preR_V (q := (RX11, TX11, 10)) (q0 := 0) hQ hPc rfl rfl) rfl rfl hl.1 rfl (lv_room (Nat.le_of_ble_eq_true rfl)) dX11_ruleOn_42 ⟨Nat.le_of_ble_eq_true rfl, Nat.le_of_ble_eq_true rfl⟩) hS (fun locs hS => ?_)
      refine lv_ladd hx hb dX11_ruleOn_45 ?_
      refine w_llt (tgt := 52) hx hb dX11_ruleOn_46 dX11_ruleOn_47 (by decide) (fun c3 => ?_) (fun c3 => ?_)
      · have c3 : (F11_warmth x1 0) < (p1 + (F11_set1 x1 3)) := c3
        refine lv_aload_n hx hb dX11_ruleOn_52 rfl (lv_at hl 0 rfl) ?_
        refine va_get (D := D) (ci := 11) (v := .ref b2) (C := RX11) (T := TX11) (N := 10) hx hb hts hinX11 hown hQ.1 hP 0 rfl rfl 0 (by decide) (hts (.fieldLink RX11 7 "HeatPumpPlantModel" "row" "[J") (List.mem_of_getElem? (i := 1) rfl)) (fun _ h9 => h9) rfl dX11_ruleOn_53 ?_
        refine lv_bipush (v := (89 : Int32)) hx hb dX11_ruleOn_56 (by decide) ?_
        refine w_lald (f := x1) (j := 89) hx hb hQ.1 hP 1 1 rfl rfl (rfl : (89 : Int32) = nI 89) (by omega) (by decide) dX11_ruleOn_58 ?_
        refine lv_aload_n hx hb dX11_ruleOn_59 rfl (lv_at hl 0 rfl) ?_
        refine lv_bipush (v := (10 : Int32)) hx hb dX11_ruleOn_60 (by decide) ?_
        have hPc : va_P D vwCl (wF [gN b0 b2 b1 x0, gR cL b2 x1]) s.heap := hP.sub [0, 1] rfl
        refine c_Rl (va_runV (As := [.int (nI 10)]) (rest := [.long (x1 89)]) ⟨hx, hb, hml, hown, hts⟩ (m11_set1 l D cI cL cP b0 b1 b2 x0 x1 10 (by omega) s.heap) (cwV 1 hts gX11_ruleOn_X11_set1 rfl rfl rfl (by decide +kernel) ⟨Nat.le_of_ble_eq_true rfl, Nat.le_of_ble_eq_true rfl⟩) (preR_V (q := (RX11, TX11, 10)) (q0 := 0) hQ hPc rfl rfl) rfl rfl hl.1 rfl (lv_room (Nat.le_of_ble_eq_true rfl)) dX11_ruleOn_62 ⟨Nat.le_of_ble_eq_true rfl, Nat.le_of_ble_eq_true rfl⟩) hS (fun locs hS => ?_)
        refine w_llt (tgt := 73) hx hb dX11_ruleOn_65 dX11_ruleOn_66 (by decide) (fun c4 => ?_) (fun c4 => ?_)
        · have c4 : (x1 89) < (F11_set1 x1 10) := c4
          refine lv_iconst (v := (5 : Int32)) hx hb dX11_ruleOn_73 (by decide) ?_
          exact W.iret (v := (5 : Int32)) hx hb hr (fun t ht hW => ⟨⟨(5 : Int32), (), rfl, ((Eq.trans (if_pos c1) (Eq.trans (if_pos c2) (Eq.trans (if_pos c3) (Eq.trans (if_pos c4) (rfl))))).symm), ht⟩, hS.F ht⟩) hS.2.2 dX11_ruleOn_74
        · have c4 : ¬ ((x1 89) < (F11_set1 x1 10)) := c4
          refine lv_iconst (v := (4 : Int32)) hx hb dX11_ruleOn_69 (by decide) ?_
          refine lv_goto (tgt := 74) hx hb dX11_ruleOn_70 (by decide) ?_
          exact W.iret (v := (4 : Int32)) hx hb hr (fun t ht hW => ⟨⟨(4 : Int32), (), rfl, ((Eq.trans (if_pos c1) (Eq.trans (if_pos c2) (Eq.trans (if_pos c3) (Eq.trans (if_neg c4) (rfl))))).symm), ht⟩, hS.F ht⟩) hS.2.2 dX11_ruleOn_74
      · have c3 : ¬ ((F11_warmth x1 0) < (p1 + (F11_set1 x1 3))) := c3
        refine lv_iconst (v := (3 : Int32)) hx hb dX11_ruleOn_50 (by decide) ?_
        exact W.iret (v := (3 : Int32)) hx hb hr (fun t ht hW => ⟨⟨(3 : Int32), (), rfl, ((Eq.trans (if_pos c1) (Eq.trans (if_pos c2) (Eq.trans (if_neg c3) (rfl)))).symm), ht⟩, hS.F ht⟩) hS.2.2 dX11_ruleOn_51
    · have c2 : ¬ ((F11_set1 x1 0) ≤ (x1 87)) := c2
      refine lv_iconst (v := (2 : Int32)) hx hb dX11_ruleOn_32 (by decide) ?_
      exact W.iret (v := (2 : Int32)) hx hb hr (fun t ht hW => ⟨⟨(2 : Int32), (), rfl, ((Eq.trans (if_pos c1) (Eq.trans (if_neg c2) (rfl))).symm), ht⟩, hS.F ht⟩) hS.2.2 dX11_ruleOn_33
  · have c1 : ¬ ((F11_warmth x1 3) < (F11_set1 x1 4)) := c1
    refine lv_iconst (v := (1 : Int32)) hx hb dX11_ruleOn_14 (by decide) ?_
    exact W.iret (v := (1 : Int32)) hx hb hr (fun t ht hW => ⟨⟨(1 : Int32), (), rfl, ((Eq.trans (if_neg c1) (rfl)).symm), ht⟩, hS.F ht⟩) hS.2.2 dX11_ruleOn_15
def F11_ruleOff (x0 : MoN) (x1 : (Nat → Int64)) (p1 : Int64) (p2 : Int64) : Int32 := (if (F11_warmth x1 0) < (p1 - (F11_set1 x1 3)) then (if (F11_warmth x1 3) < (F11_set1 x1 4) then (if (F11_set1 x1 1) ≤ (x1 88) then (if (F11_startsLately x0 x1).toInt64 < (F11_set1 x1 2) then (if p2 = (2 : Int64) then (if (F11_warmth x1 0) < (F11_set1 x1 6) then (11 : Int32) else (10 : Int32)) else (11 : Int32)) else (9 : Int32)) else (8 : Int32)) else (7 : Int32)) else (6 : Int32))
set_option maxHeartbeats 4000000 in
set_option maxRecDepth 100000 in
theorem m11_ruleOff (l : Launch) (D : va_G) (cI cL cP : ClassId) (b0 : Nat) (b1 : Nat) (b2 : Nat) (x0 : MoN) (x1 : (Nat → Int64)) (p1 : Int64) (p2 : Int64) (h81 : ¬ x1 81 = 0) (H0 : Heap) : Met l yX11_ruleOff wsX11_ruleOff ({ frames := 2, cells := 0, slots := 0, locals := 46 }) (va_Pc [.ref b0, .long p1, .long p2] (pR D cI cL cP H0 (wF [gN b0 b2 b1 x0, gR cL b2 x1]))) (va_Qi (fun (r : Int32) (_ : Unit) => r = F11_ruleOff x0 x1 p1 p2) (qE H0) nF) 0 0 nF := by
  refine Met.ofW (cc := cX11_ruleOff) (maxL := 5) (ret := (some .int)) (by decide) rfl ?_
  intro p e s m args below meth c s₁ B hml hv
  obtain ⟨rfl, rfl, hP, hQ⟩ := hv
  have hx := B.exec
  have hb := B.bytes
  have hr := B.returns
  have hts := atoms_spec (ws := wsX11_ruleOff) B.pre
  have hown : s.vm.findClass RX11 = some m.cls := findClass_of_methodNamed B.named
  have hlocks := B.notSynchronized
  have hS : va_S nF s.heap s.heap [] := va_S.rf
  have hl := lv_entry ([.ref b0, .long p1, .long p2]) (n := 5) (Nat.le_of_ble_eq_true rfl)
  rw [lg_entry_eq]
  generalize (lg_sl ([.ref b0, .long p1, .long p2]) ++ List.replicate (5 - (lg_sl ([.ref b0, .long p1, .long p2])).length) Slot.unset).toArray = ls at hl ⊢
  have hl : lv_has ls 5 [(0, .ref b0), (1, .long p1), (3, .long p2)] := hl
  have hinX11 : ∀ w ∈ wsX110, w ∈ wsX11_ruleOff := fun _ h => List.mem_cons_of_mem _ (List.mem_append_right _ h)
  refine lv_aload_n hx hb dX11_ruleOff_0 rfl (lv_at hl 0 rfl) ?_
  refine lv_iconst (v := (0 : Int32)) hx hb dX11_ruleOff_1 (by decide) ?_
  have hPc : va_P D vwCl (wF [gN b0 b2 b1 x0, gR cL b2 x1]) s.heap := hP.sub [0, 1] rfl
  refine c_Rl (va_runV (As := [.int (nI 0)]) (rest := []) ⟨hx, hb, hml, hown, hts⟩ (m11_warmth l D cI cL cP b0 b1 b2 x0 x1 0 (by omega) h81 s.heap) (cwV 1 hts gX11_ruleOff_X11_warmth rfl rfl rfl (by decide +kernel) ⟨Nat.le_of_ble_eq_true rfl, Nat.le_of_ble_eq_true rfl⟩) (preR_V (q := (RX11, TX11, 10)) (q0 := 0) hQ hPc rfl rfl) rfl rfl hl.1 rfl (lv_room (Nat.le_of_ble_eq_true rfl)) dX11_ruleOff_2 ⟨Nat.le_of_ble_eq_true rfl, Nat.le_of_ble_eq_true rfl⟩) hS (fun locs hS => ?_)
  refine lv_lload_n hx hb dX11_ruleOff_5 rfl (lv_at hl 1 rfl) ?_
  refine lv_aload_n hx hb dX11_ruleOff_6 rfl (lv_at hl 0 rfl) ?_
  refine lv_iconst (v := (3 : Int32)) hx hb dX11_ruleOff_7 (by decide) ?_
  have hPc : va_P D vwCl (wF [gN b0 b2 b1 x0, gR cL b2 x1]) s.heap := hP.sub [0, 1] rfl
  refine c_Rl (va_runV (As := [.int (nI 3)]) (rest := [.long p1, .long (F11_warmth x1 0)]) ⟨hx, hb, hml, hown, hts⟩ (m11_set1 l D cI cL cP b0 b1 b2 x0 x1 3 (by omega) s.heap) (cwV 1 hts gX11_ruleOff_X11_set1 rfl rfl rfl (by decide +kernel) ⟨Nat.le_of_ble_eq_true rfl, Nat.le_of_ble_eq_true rfl⟩) (preR_V (q := (RX11, TX11, 10)) (q0 := 0) hQ hPc rfl rfl) rfl rfl hl.1 rfl (lv_room (Nat.le_of_ble_eq_true rfl)) dX11_ruleOff_8 ⟨Nat.le_of_ble_eq_true rfl, Nat.le_of_ble_eq_true rfl⟩) hS (fun locs hS => ?_)
  refine lv_lsub hx hb dX11_ruleOff_11 ?_
  refine w_llt (tgt := 19) hx hb dX11_ruleOff_12 dX11_ruleOff_13 (by decide) (fun c1 => ?_) (fun c1 => ?_)
  · have c1 : (F11_warmth x1 0) < (p1 - (F11_set1 x1 3)) := c1
    refine lv_aload_n hx hb dX11_ruleOff_19 rfl (lv_at hl 0 rfl) ?_
    refine lv_iconst (v := (3 : Int32)) hx hb dX11_ruleOff_20 (by decide) ?_
    have hPc : va_P D vwCl (wF [gN b0 b2 b1 x0, gR cL b2 x1]) s.heap := hP.sub [0, 1] rfl
    refine c_Rl (va_runV (As := [.int (nI 3)]) (rest := []) ⟨hx, hb, hml, hown, hts⟩ (m11_warmth l D cI cL cP b0 b1 b2 x0 x1 3 (by omega) h81 s.heap) (cwV 1 hts gX11_ruleOff_X11_warmth rfl rfl rfl (by decide +kernel) ⟨Nat.le_of_ble_eq_true rfl, Nat.le_of_ble_eq_true rfl⟩) (preR_V (q := (RX11, TX11, 10)) (q0 := 0) hQ hPc rfl rfl) rfl rfl hl.1 rfl (lv_room (Nat.le_of_ble_eq_true rfl)) dX11_ruleOff_21 ⟨Nat.le_of_ble_eq_true rfl, Nat.le_of_ble_eq_true rfl⟩) hS (fun locs hS => ?_)
    refine lv_aload_n hx hb dX11_ruleOff_24 rfl (lv_at hl 0 rfl) ?_
    refine lv_iconst (v := (4 : Int32)) hx hb dX11_ruleOff_25 (by decide) ?_
    have hPc : va_P D vwCl (wF [gN b0 b2 b1 x0, gR cL b2 x1]) s.heap := hP.sub [0, 1] rfl
    refine c_Rl (va_runV (As := [.int (nI 4)]) (rest := [.long (F11_warmth x1 3)]) ⟨hx, hb, hml, hown, hts⟩ (m11_set1 l D cI cL cP b0 b1 b2 x0 x1 4 (by omega) s.heap) (cwV 1 hts gX11_ruleOff_X11_set1 rfl rfl rfl (by decide +kernel) ⟨Nat.le_of_ble_eq_true rfl, Nat.le_of_ble_eq_true rfl⟩) (preR_V (q := (RX11, TX11, 10)) (q0 := 0) hQ hPc rfl rfl) rfl rfl hl.1 rfl (lv_room (Nat.le_of_ble_eq_true rfl)) dX11_ruleOff_26 ⟨Nat.le_of_ble_eq_true rfl, Nat.le_of_ble_eq_true rfl⟩) hS (fun locs hS => ?_)
    refine w_llt (tgt := 36) hx hb dX11_ruleOff_29 dX11_ruleOff_30 (by decide) (fun c2 => ?_) (fun c2 => ?_)
    · have c2 : (F11_warmth x1 3) < (F11_set1 x1 4) := c2
      refine lv_aload_n hx hb dX11_ruleOff_36 rfl (lv_at hl 0 rfl) ?_
      refine va_get (D := D) (ci := 11) (v := .ref b2) (C := RX11) (T := TX11) (N := 10) hx hb hts hinX11 hown hQ.1 hP 0 rfl rfl 0 (by decide) (hts (.fieldLink RX11 7 "HeatPumpPlantModel" "row" "[J") (List.mem_of_getElem? (i := 1) rfl)) (fun _ h9 => h9) rfl dX11_ruleOff_37 ?_
      refine lv_bipush (v := (88 : Int32)) hx hb dX11_ruleOff_40 (by decide) ?_
      refine w_lald (f := x1) (j := 88) hx hb hQ.1 hP 1 1 rfl rfl (rfl : (88 : Int32) = nI 88) (by omega) (by decide) dX11_ruleOff_42 ?_
      refine lv_aload_n hx hb dX11_ruleOff_43 rfl (lv_at hl 0 rfl) ?_
      refine lv_iconst (v := (1 : Int32)) hx hb dX11_ruleOff_44 (by decide) ?_
      have hPc : va_P D vwCl (wF [gN b0 b2 b1 x0, gR cL b2 x1]) s.heap := hP.sub [0, 1] rfl
      refine c_Rl (va_runV (As := [.int (nI 1)]) (rest := [.long (x1 88)]) ⟨hx, hb, hml, hown, hts⟩ (m11_set1 l D cI cL cP b0 b1 b2 x0 x1 1 (by omega) s.heap) (cwV 1 hts gX11_ruleOff_X11_set1 rfl rfl rfl (by decide +kernel) ⟨Nat.le_of_ble_eq_true rfl, Nat.le_of_ble_eq_true rfl⟩) (preR_V (q := (RX11, TX11, 10)) (q0 := 0) hQ hPc rfl rfl) rfl rfl hl.1 rfl (lv_room (Nat.le_of_ble_eq_true rfl)) dX11_ruleOff_45 ⟨Nat.le_of_ble_eq_true rfl, Nat.le_of_ble_eq_true rfl⟩) hS (fun locs hS => ?_)
      refine w_lge (tgt := 55) hx hb dX11_ruleOff_48 dX11_ruleOff_49 (by decide) (fun c3 => ?_) (fun c3 => ?_)
      · have c3 : (F11_set1 x1 1) ≤ (x1 88) := c3
        refine lv_aload_n hx hb dX11_ruleOff_55 rfl (lv_at hl 0 rfl) ?_
        have hPc : va_P D vwCl (wF [gN b0 b2 b1 x0, gR cL b2 x1]) s.heap := hP.sub [0, 1] rfl
        refine c_Ri (va_runV (As := []) (rest := []) ⟨hx, hb, hml, hown, hts⟩ (m11_startsLately l D cI cL cP b0 b1 b2 x0 x1 s.heap) (cwV 0 hts gX11_ruleOff_X11_startsLately rfl rfl rfl (by decide +kernel) ⟨Nat.le_of_ble_eq_true rfl, Nat.le_of_ble_eq_true rfl⟩) (preR_V (q := (RX11, TX11, 10)) (q0 := 0) hQ hPc rfl rfl) rfl rfl hl.1 rfl (lv_room (Nat.le_of_ble_eq_true rfl)) dX11_ruleOff_56 ⟨Nat.le_of_ble_eq_true rfl, Nat.le_of_ble_eq_true rfl⟩) hS (fun locs hS => ?_)
        refine lv_i2l hx hb dX11_ruleOff_59 rfl ?_
        refine lv_aload_n hx hb dX11_ruleOff_60 rfl (lv_at hl 0 rfl) ?_
        refine lv_iconst (v := (2 : Int32)) hx hb dX11_ruleOff_61 (by decide) ?_
        have hPc : va_P D vwCl (wF [gN b0 b2 b1 x0, gR cL b2 x1]) s.heap := hP.sub [0, 1] rfl
        refine c_Rl (va_runV (As := [.int (nI 2)]) (rest := [.long ((F11_startsLately x0 x1).toInt64)]) ⟨hx, hb, hml, hown, hts⟩ (m11_set1 l D cI cL cP b0 b1 b2 x0 x1 2 (by omega) s.heap) (cwV 1 hts gX11_ruleOff_X11_set1 rfl rfl rfl (by decide +kernel) ⟨Nat.le_of_ble_eq_true rfl, Nat.le_of_ble_eq_true rfl⟩) (preR_V (q := (RX11, TX11, 10)) (q0 := 0) hQ hPc rfl rfl) rfl rfl hl.1 rfl (lv_room (Nat.le_of_ble_eq_true rfl)) dX11_ruleOff_62 ⟨Nat.le_of_ble_eq_true rfl, Nat.le_of_ble_eq_true rfl⟩) hS (fun locs hS => ?_)
        refine w_llt (tgt := 72) hx hb dX11_ruleOff_65 dX11_ruleOff_66 (by decide) (fun c4 => ?_) (fun c4 => ?_)
        · have c4 : (F11_startsLately x0 x1).toInt64 < (F11_set1 x1 2) := c4
          refine lv_lload_n hx hb dX11_ruleOff_72 rfl (lv_at hl 2 rfl) ?_
          refine lv_ldc2 (own := RX11) (index := 29) (v := (2 : Int64)) hx hb hown (hts (.constantLong RX11 29 (2)) (List.mem_of_getElem? (i := 2) rfl)) dX11_ruleOff_73 ?_
          refine w_lne (tgt := 100) hx hb dX11_ruleOff_76 dX11_ruleOff_77 (by decide) (fun c5 => ?_) (fun c5 => ?_)
          · have c5 : ¬ (p2 = (2 : Int64)) := c5
            refine lv_bipush (v := (11 : Int32)) hx hb dX11_ruleOff_100 (by decide) ?_
            exact W.iret (v := (11 : Int32)) hx hb hr (fun t ht hW => ⟨⟨(11 : Int32), (), rfl, ((Eq.trans (if_pos c1) (Eq.trans (if_pos c2) (Eq.trans (if_pos c3) (Eq.trans (if_pos c4) (Eq.trans (if_neg c5) (rfl)))))).symm), ht⟩, hS.F ht⟩) hS.2.2 dX11_ruleOff_102
          · have c5 : p2 = (2 : Int64) := c5
            refine lv_aload_n hx hb dX11_ruleOff_80 rfl (lv_at hl 0 rfl) ?_
            refine lv_iconst (v := (0 : Int32)) hx hb dX11_ruleOff_81 (by decide) ?_
            have hPc : va_P D vwCl (wF [gN b0 b2 b1 x0, gR cL b2 x1]) s.heap := hP.sub [0, 1] rfl
            refine c_Rl (va_runV (As := [.int (nI 0)]) (rest := []) ⟨hx, hb, hml, hown, hts⟩ (m11_warmth l D cI cL cP b0 b1 b2 x0 x1 0 (by omega) h81 s.heap) (cwV 1 hts gX11_ruleOff_X11_warmth rfl rfl rfl (by decide +kernel) ⟨Nat.le_of_ble_eq_true rfl, Nat.le_of_ble_eq_true rfl⟩) (preR_V (q := (RX11, TX11, 10)) (q0 := 0) hQ hPc rfl rfl) rfl rfl hl.1 rfl (lv_room (Nat.le_of_ble_eq_true rfl)) dX11_ruleOff_82 ⟨Nat.le_of_ble_eq_true rfl, Nat.le_of_ble_eq_true rfl⟩) hS (fun locs hS => ?_)
            refine lv_aload_n hx hb dX11_ruleOff_85 rfl (lv_at hl 0 rfl) ?_
            refine lv_bipush (v := (6 : Int32)) hx hb dX11_ruleOff_86 (by decide) ?_
            have hPc : va_P D vwCl (wF [gN b0 b2 b1 x0, gR cL b2 x1]) s.heap := hP.sub [0, 1] rfl
            refine c_Rl (va_runV (As := [.int (nI 6)]) (rest := [.long (F11_warmth x1 0)]) ⟨hx, hb, hml, hown, hts⟩ (m11_set1 l D cI cL cP b0 b1 b2 x0 x1 6 (by omega) s.heap) (cwV 1 hts gX11_ruleOff_X11_set1 rfl rfl rfl (by decide +kernel) ⟨Nat.le_of_ble_eq_true rfl, Nat.le_of_ble_eq_true rfl⟩) (preR_V (q := (RX11, TX11, 10)) (q0 := 0) hQ hPc rfl rfl) rfl rfl hl.1 rfl (lv_room (Nat.le_of_ble_eq_true rfl)) dX11_ruleOff_88 ⟨Nat.le_of_ble_eq_true rfl, Nat.le_of_ble_eq_true rfl⟩) hS (fun locs hS => ?_)
            refine w_llt (tgt := 100) hx hb dX11_ruleOff_91 dX11_ruleOff_92 (by decide) (fun c6 => ?_) (fun c6 => ?_)
            · have c6 : (F11_warmth x1 0) < (F11_set1 x1 6) := c6
              refine lv_bipush (v := (11 : Int32)) hx hb dX11_ruleOff_100 (by decide) ?_
              exact W.iret (v := (11 : Int32)) hx hb hr (fun t ht hW => ⟨⟨(11 : Int32), (), rfl, ((Eq.trans (if_pos c1) (Eq.trans (if_pos c2) (Eq.trans (if_pos c3) (Eq.trans (if_pos c4) (Eq.trans (if_pos c5) (Eq.trans (if_pos c6) (rfl))))))).symm), ht⟩, hS.F ht⟩) hS.2.2 dX11_ruleOff_102
            · have c6 : ¬ ((F11_warmth x1 0) < (F11_set1 x1 6)) := c6
              refine lv_bipush (v := (10 : Int32)) hx hb dX11_ruleOff_95 (by decide) ?_
              refine lv_goto (tgt := 102) hx hb dX11_ruleOff_97 (by decide) ?_
              exact W.iret (v := (10 : Int32)) hx hb hr (fun t ht hW => ⟨⟨(10 : Int32), (), rfl, ((Eq.trans (if_pos c1) (Eq.trans (if_pos c2) (Eq.trans (if_pos c3) (Eq.trans (if_pos c4) (Eq.trans (if_pos c5) (Eq.trans (if_neg c6) (rfl))))))).symm), ht⟩, hS.F ht⟩) hS.2.2 dX11_ruleOff_102
        · have c4 : ¬ ((F11_startsLately x0 x1).toInt64 < (F11_set1 x1 2)) := c4
          refine lv_bipush (v := (9 : Int32)) hx hb dX11_ruleOff_69 (by decide) ?_
          exact W.iret (v := (9 : Int32)) hx hb hr (fun t ht hW => ⟨⟨(9 : Int32), (), rfl, ((Eq.trans (if_pos c1) (Eq.trans (if_pos c2) (Eq.trans (if_pos c3) (Eq.trans (if_neg c4) (rfl))))).symm), ht⟩, hS.F ht⟩) hS.2.2 dX11_ruleOff_71
      · have c3 : ¬ ((F11_set1 x1 1) ≤ (x1 88)) := c3
        refine lv_bipush (v := (8 : Int32)) hx hb dX11_ruleOff_52 (by decide) ?_
        exact W.iret (v := (8 : Int32)) hx hb hr (fun t ht hW => ⟨⟨(8 : Int32), (), rfl, ((Eq.trans (if_pos c1) (Eq.trans (if_pos c2) (Eq.trans (if_neg c3) (rfl)))).symm), ht⟩, hS.F ht⟩) hS.2.2 dX11_ruleOff_54
    · have c2 : ¬ ((F11_warmth x1 3) < (F11_set1 x1 4)) := c2
      refine lv_bipush (v := (7 : Int32)) hx hb dX11_ruleOff_33 (by decide) ?_
      exact W.iret (v := (7 : Int32)) hx hb hr (fun t ht hW => ⟨⟨(7 : Int32), (), rfl, ((Eq.trans (if_pos c1) (Eq.trans (if_neg c2) (rfl))).symm), ht⟩, hS.F ht⟩) hS.2.2 dX11_ruleOff_35
  · have c1 : ¬ ((F11_warmth x1 0) < (p1 - (F11_set1 x1 3))) := c1
    refine lv_bipush (v := (6 : Int32)) hx hb dX11_ruleOff_16 (by decide) ?_
    exact W.iret (v := (6 : Int32)) hx hb hr (fun t ht hW => ⟨⟨(6 : Int32), (), rfl, ((Eq.trans (if_neg c1) (rfl)).symm), ht⟩, hS.F ht⟩) hS.2.2 dX11_ruleOff_18
