def L11_init_23 : Nat → Nat → (Nat → Int64) → Nat × (Nat → Int64)
  | 0, _, _ => default
  | fu + 1, i, r => (if 17 ≤ i then (i, r) else ((L11_init_23 fu) (i + 1) (vp_updL r (0 + i) ((F11_first i).toInt64))))
def L11_init_50 (z4 : Nat × (Nat → Int64)) : Nat → Nat → (Nat → Int64) → Nat × (Nat → Int64)
  | 0, _, _ => default
  | fu + 1, i, r => (if 24 ≤ i then (i, r) else ((L11_init_50 z4 fu) (i + 1) (vp_updL (vp_updL r (17 + i) (50 : Int64)) (41 + i) (1 : Int64))))
def K11_init_3 (z4 : Nat × (Nat → Int64)) (z6 : Nat × (Nat → Int64)) (z7 : (Nat → Int64)) : (Nat → Int64) := (vp_updL (vp_updL z7 88 (1000 : Int64)) 92 (-9999 : Int64))
def K11_init_2 (z4 : Nat × (Nat → Int64)) (z6 : Nat × (Nat → Int64)) : (Nat → Int64) := (K11_init_3 z4 z6 (F11_layEnergies (vp_updL (vp_updL (vp_updL (vp_updL (vp_updL (vp_updL (vp_updL (vp_updL z6.2 65 (10 : Int64)) 66 (20 : Int64)) 67 (40 : Int64)) 68 (2 : Int64)) 69 (-150 : Int64)) 70 (450 : Int64)) 71 (200 : Int64)) 72 (250 : Int64)) (700 : Int32) (300 : Int32)))
def K11_init_1 (z4 : Nat × (Nat → Int64)) : (Nat → Int64) := (K11_init_2 z4 (L11_init_50 z4 25 0 z4.2))
def F11_init : (Nat → Int64) := (K11_init_1 (L11_init_23 18 0 (fun _ => (0 : Int64))))
set_option maxHeartbeats 4000000 in
set_option maxRecDepth 100000 in
theorem m11_init (l : Launch) (D : va_G) (cI cL cP : ClassId) (b0 : Nat) (sz : Nat) : Met l yX11_init wsX11_init ({ frames := 1, cells := 2, slots := 1144, locals := 23 }) (va_Pc [.ref b0] (pM D cI cL cP sz (wF [[(b0, .inr (11, [.null, .int 0, .null, .int 0, .int 0, .int 0, .int 0, .int 0, .int 0, .int 0]))]]))) (va_Qv (fun (w : Nat × Nat × (Nat → Int64)) => w.2.2 = F11_init) (qW D (va_A (wF [[(b0, .inr (11, [.null, .int 0, .null, .int 0, .int 0, .int 0, .int 0, .int 0, .int 0, .int 0]))]]) sz) (fun w : Nat × Nat × (Nat → Int64) => (wF [gN b0 w.1 w.2.1 ((0, 0, 0, (0 : Int32), (0 : Int32), (0 : Int32), (0 : Int32), (0 : Int32)) : MoN), gR cL w.1 w.2.2, gI cI w.2.1 100 (fun _ => (0 : Int32))]))) (va_A (wF [[(b0, .inr (11, [.null, .int 0, .null, .int 0, .int 0, .int 0, .int 0, .int 0, .int 0, .int 0]))]]) sz)) 2 1144 (va_A (wF [[(b0, .inr (11, [.null, .int 0, .null, .int 0, .int 0, .int 0, .int 0, .int 0, .int 0, .int 0]))]]) sz) := by
  refine Met.ofW (cc := cX11_init) (maxL := 2) (ret := none) (by decide) rfl ?_
  intro p e s m args below meth c s₁ B hml hv
  obtain ⟨rfl, hsz, hP, hQ, hD0⟩ := hv
  have hx := B.exec
  have hb := B.bytes
  have hr := B.returns
  have hts := atoms_spec (ws := wsX11_init) B.pre
  have hown : s.vm.findClass RX11 = some m.cls := findClass_of_methodNamed B.named
  have hlocks := B.notSynchronized
  subst hsz
  have hD := hD0.self (sz := s.heap.size)
  generalize hAe : va_A (wF [[(b0, .inr (11, [.null, .int 0, .null, .int 0, .int 0, .int 0, .int 0, .int 0, .int 0, .int 0]))]]) s.heap.size = A at hD ⊢
  have hA : ∀ q : Nat, s.heap.size ≤ q → A q := fun q h => by rw [← hAe]; exact Or.inr h
  have hS : va_S A s.heap s.heap [] := va_S.rf
  have hP : va_P D vwCl (wF [[(b0, .inr (11, [.null, .int 0, .null, .int 0, .int 0, .int 0, .int 0, .int 0, .int 0, .int 0]))]]) s.heap := hP
  have hl := lv_entry ([.ref b0]) (n := 2) (Nat.le_of_ble_eq_true rfl)
  rw [lg_entry_eq]
  generalize (lg_sl ([.ref b0]) ++ List.replicate (2 - (lg_sl ([.ref b0])).length) Slot.unset).toArray = ls at hl ⊢
  have hl : lv_has ls 2 [(0, .ref b0)] := hl
  have hin : meth.name = "<init>" := (name_of_methodNamed B.named B.method).1
  have hinX11 : ∀ w ∈ wsX110, w ∈ wsX11_init := fun _ h => List.mem_cons_of_mem _ (List.mem_append_right _ h)
  refine lv_aload_n hx hb dX11_init_0 rfl (lv_at hl 0 rfl) ?_
  refine W.objInit hx hb hown (hts (.methodLink RX11 1 objectInit) (List.mem_of_getElem? (i := 1) rfl)) (hts (.instanceMethod objectInit) (List.mem_of_getElem? (i := 2) rfl)) (hts (.code objectInit ⟨#[0xb1]⟩ 1 none) (List.mem_of_getElem? (i := 3) rfl)) rfl (by rw [hml]; exact hl.1) rfl dX11_init_1 (Nat.le_of_ble_eq_true rfl) (Nat.le_of_ble_eq_true rfl) ?_
  refine W.eq (g2 := F0 m 4 ls []) rfl ?_
  refine lv_aload_n hx hb dX11_init_4 rfl (lv_at hl 0 rfl) ?_
  refine lv_sipush (v := (1044 : Int32)) hx hb dX11_init_5 (by decide) ?_
  refine va_newa (atype := .long) (ty := .long) (a0 := (1044, .inr (.inl (fun _ => (0 : Int64))))) (N' := 1044) hx hb (hts (.arrayClass .long) (List.mem_of_getElem? (i := 4) rfl)) rfl hQ.1 hP hD hS hA (fun _ => vp_cell_l _ _ _) (by decide) (by decide) (Nat.le_of_ble_eq_true rfl) (Nat.le_of_ble_eq_true rfl) (Nat.le_of_ble_eq_true rfl) dX11_init_8 (fun q1 cA H hK9 hP hD hS => ?_)
  have hcA : cL = cA := (w_arrL hK9).symm
  subst hcA
  refine W.widen (k := 1) (n := 1044) (by omega) (by omega) ?_
  have hP : va_P D vwCl (wF [[(b0, .inr (11, [.null, .int 0, .null, .int 0, .int 0, .int 0, .int 0, .int 0, .int 0, .int 0]))], gLA cL q1 1044 (fun _ => (0 : Int64))]) H := hP
  have hD : va_D A (wF [[(b0, .inr (11, [.null, .int 0, .null, .int 0, .int 0, .int 0, .int 0, .int 0, .int 0, .int 0]))], gLA cL q1 1044 (fun _ => (0 : Int64))]) := hD
  refine va_putF (D := D) (ci := 11) (v := .ref q1) (ty := .array .long) (C := RX11) (T := TX11) (N := 10) hx hb hts hinX11 tyX11 tyX11_ok nmX11 hown hQ.1 hP hD hS 0 rfl rfl 0 (by decide) (hts (.fieldLink RX11 7 "HeatPumpPlantModel" "row" "[J") (List.mem_of_getElem? (i := 5) rfl)) (fun _ h9 => h9) rfl hin rfl (by decide +kernel) rfl rfl (Nat.le_of_ble_eq_true rfl) dX11_init_10 (fun H locs hP hD hS => ?_)
  have hP : va_P D vwCl (wF [[(b0, .inr (11, [.ref q1, .int 0, .null, .int 0, .int 0, .int 0, .int 0, .int 0, .int 0, .int 0]))], gLA cL q1 1044 (fun _ => (0 : Int64))]) H := hP
  have hD : va_D A (wF [[(b0, .inr (11, [.ref q1, .int 0, .null, .int 0, .int 0, .int 0, .int 0, .int 0, .int 0, .int 0]))], gLA cL q1 1044 (fun _ => (0 : Int64))]) := hD
  refine lv_aload_n hx hb dX11_init_13 rfl (lv_at hl 0 rfl) ?_
  refine lv_bipush (v := (100 : Int32)) hx hb dX11_init_14 (by decide) ?_
  refine va_newa (atype := .int) (ty := .int) (a0 := (100, .inl (fun _ => (0 : Int32)))) (N' := 100) hx hb (hts (.arrayClass .int) (List.mem_of_getElem? (i := 6) rfl)) rfl hQ.1 hP hD hS hA (fun _ => vp_cell_i _ _ _) (by decide) (by decide) (Nat.le_of_ble_eq_true rfl) (Nat.le_of_ble_eq_true rfl) (Nat.le_of_ble_eq_true rfl) dX11_init_16 (fun q2 cA H hK9 hP hD hS => ?_)
  have hcA : cI = cA := (w_arrI hK9).symm
  subst hcA
  refine W.widen (k := 2) (n := 1144) (by omega) (by omega) ?_
  have hP : va_P D vwCl (wF [[(b0, .inr (11, [.ref q1, .int 0, .null, .int 0, .int 0, .int 0, .int 0, .int 0, .int 0, .int 0]))], gLA cL q1 1044 (fun _ => (0 : Int64)), gI cI q2 100 (fun _ => (0 : Int32))]) H := hP
  have hD : va_D A (wF [[(b0, .inr (11, [.ref q1, .int 0, .null, .int 0, .int 0, .int 0, .int 0, .int 0, .int 0, .int 0]))], gLA cL q1 1044 (fun _ => (0 : Int64)), gI cI q2 100 (fun _ => (0 : Int32))]) := hD
  refine va_putF (D := D) (ci := 11) (v := .ref q2) (ty := .array .int) (C := RX11) (T := TX11) (N := 10) hx hb hts hinX11 tyX11 tyX11_ok nmX11 hown hQ.1 hP hD hS 0 rfl rfl 2 (by decide) (hts (.fieldLink RX11 13 "HeatPumpPlantModel" "text" "[I") (List.mem_of_getElem? (i := 7) rfl)) (fun _ h9 => h9) rfl hin rfl (by decide +kernel) rfl rfl (Nat.le_of_ble_eq_true rfl) dX11_init_18 (fun H locs hP hD hS => ?_)
  have hP : va_P D vwCl (wF [[(b0, .inr (11, [.ref q1, .int 0, .ref q2, .int 0, .int 0, .int 0, .int 0, .int 0, .int 0, .int 0]))], gLA cL q1 1044 (fun _ => (0 : Int64)), gI cI q2 100 (fun _ => (0 : Int32))]) H := hP
  have hD : va_D A (wF [[(b0, .inr (11, [.ref q1, .int 0, .ref q2, .int 0, .int 0, .int 0, .int 0, .int 0, .int 0, .int 0]))], gLA cL q1 1044 (fun _ => (0 : Int64)), gI cI q2 100 (fun _ => (0 : Int32))]) := hD
  refine lv_iconst (v := (0 : Int32)) hx hb dX11_init_21 (by decide) ?_
  refine lv_istore_n (lv' := [(1, .int (0 : Int32)), (0, .ref b0)]) hx hb dX11_init_22 rfl hl (by decide) rfl (fun ls hl => ?_)
  have loop23 : ∀ (fu : Nat) (i : Nat) (r : Nat → Int64) (hi : i ≤ 17) (hm : 17 - i < fu) (kk : ∀ z : Nat × (Nat → Int64), z = L11_init_23 fu i r → ((z.1) ≤ 17) → ∀ (H : Heap) (locs : List Loc) (_ : va_P D vwCl (wF [[(b0, .inr (11, [.ref q1, .int 0, .ref q2, .int 0, .int 0, .int 0, .int 0, .int 0, .int 0, .int 0]))], gLA cL q1 1044 z.2, gI cI q2 100 (fun _ => (0 : Int32))]) H) (_ : va_D A (wF [[(b0, .inr (11, [.ref q1, .int 0, .ref q2, .int 0, .int 0, .int 0, .int 0, .int 0, .int 0, .int 0]))], gLA cL q1 1044 z.2, gI cI q2 100 (fun _ => (0 : Int32))])) (_ : va_S A s.heap H locs) (ls : Array Slot) (_ : lv_has ls 2 [(1, .int (nI z.1)), (0, .ref b0)]), W p l e (headSpec wsX11_init ({ frames := 1, cells := 2, slots := 1144, locals := 23 })).room s m #[.ref b0] below meth c H locs 2 1144 (MQ below (va_Qv (fun (w : Nat × Nat × (Nat → Int64)) => w.2.2 = F11_init) (qW D A (fun w : Nat × Nat × (Nat → Int64) => (wF [gN b0 w.1 w.2.1 ((0, 0, 0, (0 : Int32), (0 : Int32), (0 : Int32), (0 : Int32), (0 : Int32)) : MoN), gR cL w.1 w.2.2, gI cI w.2.1 100 (fun _ => (0 : Int32))]))) A) #[.ref b0] s 2 1144 A) (F0 m 48 ls [])), ∀ (H : Heap) (locs : List Loc) (_ : va_P D vwCl (wF [[(b0, .inr (11, [.ref q1, .int 0, .ref q2, .int 0, .int 0, .int 0, .int 0, .int 0, .int 0, .int 0]))], gLA cL q1 1044 r, gI cI q2 100 (fun _ => (0 : Int32))]) H) (_ : va_D A (wF [[(b0, .inr (11, [.ref q1, .int 0, .ref q2, .int 0, .int 0, .int 0, .int 0, .int 0, .int 0, .int 0]))], gLA cL q1 1044 r, gI cI q2 100 (fun _ => (0 : Int32))])) (_ : va_S A s.heap H locs) (ls : Array Slot) (_ : lv_has ls 2 [(1, .int (nI i)), (0, .ref b0)]), W p l e (headSpec wsX11_init ({ frames := 1, cells := 2, slots := 1144, locals := 23 })).room s m #[.ref b0] below meth c H locs 2 1144 (MQ below (va_Qv (fun (w : Nat × Nat × (Nat → Int64)) => w.2.2 = F11_init) (qW D A (fun w : Nat × Nat × (Nat → Int64) => (wF [gN b0 w.1 w.2.1 ((0, 0, 0, (0 : Int32), (0 : Int32), (0 : Int32), (0 : Int32), (0 : Int32)) : MoN), gR cL w.1 w.2.2, gI cI w.2.1 100 (fun _ => (0 : Int32))]))) A) #[.ref b0] s 2 1144 A) (F0 m 23 ls []) := by
    intro fu
    induction fu with
    | zero => intro i r hi hm; exact absurd hm (by omega)
    | succ fu ih =>
      intro i r hi hm kk H locs hP hD hS ls hl
      refine lv_iload_n hx hb dX11_init_23 rfl (lv_at hl 0 rfl) ?_
      refine lv_bipush (v := (17 : Int32)) hx hb dX11_init_24 (by decide) ?_
      refine lv_icmp_ge (tgt := 48) hx hb dX11_init_26 (by decide) (fun c3 => ?_) (fun c3 => ?_)
      · have c3 : 17 ≤ i := (nI_leI (a := 17) (b := i) (by omega) (by omega)).mp c3
        exact kk (i, r) ((Eq.trans (if_pos c3) (rfl)).symm) hi H locs hP hD hS ls (lv_sub hl [0, 1] rfl)
      · have c3 : ¬ (17 ≤ i) := fun h9 => c3 ((nI_leI (a := 17) (b := i) (by omega) (by omega)).mpr h9)
        refine lv_aload_n hx hb dX11_init_29 rfl (lv_at hl 1 rfl) ?_
        refine va_get (D := D) (ci := 11) (v := .ref q1) (C := RX11) (T := TX11) (N := 10) hx hb hts hinX11 hown hQ.1 hP 0 rfl rfl 0 (by decide) (hts (.fieldLink RX11 7 "HeatPumpPlantModel" "row" "[J") (List.mem_of_getElem? (i := 5) rfl)) (fun _ h9 => h9) rfl dX11_init_30 ?_
        refine lv_iconst (v := (0 : Int32)) hx hb dX11_init_33 (by decide) ?_
        refine lv_iload_n hx hb dX11_init_34 rfl (lv_at hl 0 rfl) ?_
        refine lv_iadd hx hb dX11_init_35 ?_
        refine lv_iload_n hx hb dX11_init_36 rfl (lv_at hl 0 rfl) ?_
        have hPc : va_P D vwCl (wF []) H := hP.sub [] rfl
        refine c_Ri (va_runS (As := [.int (nI i)]) (rest := [.int ((0 : Int32) + (nI i)), .ref q1]) ⟨hx, hb, hml, hown, hts⟩ (m11_first l D cI cL cP i (by omega) H) (va_cwS 1 hts gX11_init_X11_first rfl rfl rfl (by decide +kernel) ⟨Nat.le_of_ble_eq_true rfl, Nat.le_of_ble_eq_true rfl⟩) (preR_S hQ hPc) rfl rfl hl.1 rfl (lv_room (Nat.le_of_ble_eq_true rfl)) dX11_init_37 ⟨Nat.le_of_ble_eq_true rfl, Nat.le_of_ble_eq_true rfl⟩) hS (fun locs hS => ?_)
        refine lv_i2l hx hb dX11_init_40 rfl ?_
        refine w_last (f := r) (j := (0 + i)) hx hb hQ.1 hP hD hS 1 1 rfl rfl ((congr (congrArg HAdd.hAdd (show (0 : Int32) = nI 0 from (rfl : (0 : Int32) = nI 0))) (show (nI i) = nI i from rfl)).trans (nI_add 0 i)) (by omega) (by decide) dX11_init_41 (fun H locs hP hD hS => ?_)
        have hP : va_P D vwCl (wF [[(b0, .inr (11, [.ref q1, .int 0, .ref q2, .int 0, .int 0, .int 0, .int 0, .int 0, .int 0, .int 0]))], gLA cL q1 1044 (vp_updL r (0 + i) ((F11_first i).toInt64)), gI cI q2 100 (fun _ => (0 : Int32))]) H := hP
        have hD : va_D A (wF [[(b0, .inr (11, [.ref q1, .int 0, .ref q2, .int 0, .int 0, .int 0, .int 0, .int 0, .int 0, .int 0]))], gLA cL q1 1044 (vp_updL r (0 + i) ((F11_first i).toInt64)), gI cI q2 100 (fun _ => (0 : Int32))]) := hD
        refine lv_iinc (v := (nI (i + 1))) (lv' := [(1, .int (nI (i + 1))), (0, .ref b0)]) hx hb dX11_init_42 hl (k := 0) rfl (nI_add i 1) (by decide) rfl (fun ls hl => ?_)
        refine lv_goto (tgt := 23) hx hb dX11_init_45 (by decide) ?_
        have hP : va_P D vwCl (wF [[(b0, .inr (11, [.ref q1, .int 0, .ref q2, .int 0, .int 0, .int 0, .int 0, .int 0, .int 0, .int 0]))], gLA cL q1 1044 (vp_updL r (0 + i) ((F11_first i).toInt64)), gI cI q2 100 (fun _ => (0 : Int32))]) H := hP
        have hD : va_D A (wF [[(b0, .inr (11, [.ref q1, .int 0, .ref q2, .int 0, .int 0, .int 0, .int 0, .int 0, .int 0, .int 0]))], gLA cL q1 1044 (vp_updL r (0 + i) ((F11_first i).toInt64)), gI cI q2 100 (fun _ => (0 : Int32))]) := hD
        exact ih (i + 1) (vp_updL r (0 + i) ((F11_first i).toInt64)) (by omega) (by omega) (fun z hz => kk z (hz.trans ((Eq.trans (if_neg c3) (rfl)).symm))) H locs hP hD hS ls (lv_sub hl [0, 1] rfl)
  have hP : va_P D vwCl (wF [[(b0, .inr (11, [.ref q1, .int 0, .ref q2, .int 0, .int 0, .int 0, .int 0, .int 0, .int 0, .int 0]))], gLA cL q1 1044 (fun _ => (0 : Int64)), gI cI q2 100 (fun _ => (0 : Int32))]) H := hP
  have hD : va_D A (wF [[(b0, .inr (11, [.ref q1, .int 0, .ref q2, .int 0, .int 0, .int 0, .int 0, .int 0, .int 0, .int 0]))], gLA cL q1 1044 (fun _ => (0 : Int64)), gI cI q2 100 (fun _ => (0 : Int32))]) := hD
  refine loop23 18 0 (fun _ => (0 : Int64)) (by omega) (by omega) (fun z4 hz4 hi_z4 H locs hP hD hS ls hl => ?_) H locs hP hD hS ls (lv_sub hl [0, 1] rfl)
  refine lv_iconst (v := (0 : Int32)) hx hb dX11_init_48 (by decide) ?_
  refine lv_istore_n (lv' := [(1, .int (0 : Int32)), (0, .ref b0)]) hx hb dX11_init_49 rfl hl (by decide) rfl (fun ls hl => ?_)
  have loop50 : ∀ (fu : Nat) (i : Nat) (r : Nat → Int64) (hi : i ≤ 24) (hm : 24 - i < fu) (kk : ∀ z : Nat × (Nat → Int64), z = L11_init_50 z4 fu i r → ((z.1) ≤ 24) → ∀ (H : Heap) (locs : List Loc) (_ : va_P D vwCl (wF [[(b0, .inr (11, [.ref q1, .int 0, .ref q2, .int 0, .int 0, .int 0, .int 0, .int 0, .int 0, .int 0]))], gLA cL q1 1044 z.2, gI cI q2 100 (fun _ => (0 : Int32))]) H) (_ : va_D A (wF [[(b0, .inr (11, [.ref q1, .int 0, .ref q2, .int 0, .int 0, .int 0, .int 0, .int 0, .int 0, .int 0]))], gLA cL q1 1044 z.2, gI cI q2 100 (fun _ => (0 : Int32))])) (_ : va_S A s.heap H locs) (ls : Array Slot) (_ : lv_has ls 2 [(1, .int (nI z.1)), (0, .ref b0)]), W p l e (headSpec wsX11_init ({ frames := 1, cells := 2, slots := 1144, locals := 23 })).room s m #[.ref b0] below meth c H locs 2 1144 (MQ below (va_Qv (fun (w : Nat × Nat × (Nat → Int64)) => w.2.2 = F11_init) (qW D A (fun w : Nat × Nat × (Nat → Int64) => (wF [gN b0 w.1 w.2.1 ((0, 0, 0, (0 : Int32), (0 : Int32), (0 : Int32), (0 : Int32), (0 : Int32)) : MoN), gR cL w.1 w.2.2, gI cI w.2.1 100 (fun _ => (0 : Int32))]))) A) #[.ref b0] s 2 1144 A) (F0 m 84 ls [])), ∀ (H : Heap) (locs : List Loc) (_ : va_P D vwCl (wF [[(b0, .inr (11, [.ref q1, .int 0, .ref q2, .int 0, .int 0, .int 0, .int 0, .int 0, .int 0, .int 0]))], gLA cL q1 1044 r, gI cI q2 100 (fun _ => (0 : Int32))]) H) (_ : va_D A (wF [[(b0, .inr (11, [.ref q1, .int 0, .ref q2, .int 0, .int 0, .int 0, .int 0, .int 0, .int 0, .int 0]))], gLA cL q1 1044 r, gI cI q2 100 (fun _ => (0 : Int32))])) (_ : va_S A s.heap H locs) (ls : Array Slot) (_ : lv_has ls 2 [(1, .int (nI i)), (0, .ref b0)]), W p l e (headSpec wsX11_init ({ frames := 1, cells := 2, slots := 1144, locals := 23 })).room s m #[.ref b0] below meth c H locs 2 1144 (MQ below (va_Qv (fun (w : Nat × Nat × (Nat → Int64)) => w.2.2 = F11_init) (qW D A (fun w : Nat × Nat × (Nat → Int64) => (wF [gN b0 w.1 w.2.1 ((0, 0, 0, (0 : Int32), (0 : Int32), (0 : Int32), (0 : Int32), (0 : Int32)) : MoN), gR cL w.1 w.2.2, gI cI w.2.1 100 (fun _ => (0 : Int32))]))) A) #[.ref b0] s 2 1144 A) (F0 m 50 ls []) := by
    intro fu
    induction fu with
    | zero => intro i r hi hm; exact absurd hm (by omega)
    | succ fu ih =>
      intro i r hi hm kk H locs hP hD hS ls hl
      refine lv_iload_n hx hb dX11_init_50 rfl (lv_at hl 0 rfl) ?_
      refine lv_bipush (v := (24 : Int32)) hx hb dX11_init_51 (by decide) ?_
      refine lv_icmp_ge (tgt := 84) hx hb dX11_init_53 (by decide) (fun c5 => ?_) (fun c5 => ?_)
      · have c5 : 24 ≤ i := (nI_leI (a := 24) (b := i) (by omega) (by omega)).mp c5
        exact kk (i, r) ((Eq.trans (if_pos c5) (rfl)).symm) hi H locs hP hD hS ls (lv_sub hl [0, 1] rfl)
      · have c5 : ¬ (24 ≤ i) := fun h9 => c5 ((nI_leI (a := 24) (b := i) (by omega) (by omega)).mpr h9)
        refine lv_aload_n hx hb dX11_init_56 rfl (lv_at hl 1 rfl) ?_
        refine va_get (D := D) (ci := 11) (v := .ref q1) (C := RX11) (T := TX11) (N := 10) hx hb hts hinX11 hown hQ.1 hP 0 rfl rfl 0 (by decide) (hts (.fieldLink RX11 7 "HeatPumpPlantModel" "row" "[J") (List.mem_of_getElem? (i := 5) rfl)) (fun _ h9 => h9) rfl dX11_init_57 ?_
        refine lv_bipush (v := (17 : Int32)) hx hb dX11_init_60 (by decide) ?_
        refine lv_iload_n hx hb dX11_init_62 rfl (lv_at hl 0 rfl) ?_
        refine lv_iadd hx hb dX11_init_63 ?_
        refine lv_ldc2 (own := RX11) (index := 21) (v := (50 : Int64)) hx hb hown (hts (.constantLong RX11 21 (50)) (List.mem_of_getElem? (i := 8) rfl)) dX11_init_64 ?_
        refine w_last (f := r) (j := (17 + i)) hx hb hQ.1 hP hD hS 1 1 rfl rfl ((congr (congrArg HAdd.hAdd (show (17 : Int32) = nI 17 from (rfl : (17 : Int32) = nI 17))) (show (nI i) = nI i from rfl)).trans (nI_add 17 i)) (by omega) (by decide) dX11_init_67 (fun H locs hP hD hS => ?_)
        have hP : va_P D vwCl (wF [[(b0, .inr (11, [.ref q1, .int 0, .ref q2, .int 0, .int 0, .int 0, .int 0, .int 0, .int 0, .int 0]))], gLA cL q1 1044 (vp_updL r (17 + i) (50 : Int64)), gI cI q2 100 (fun _ => (0 : Int32))]) H := hP
        have hD : va_D A (wF [[(b0, .inr (11, [.ref q1, .int 0, .ref q2, .int 0, .int 0, .int 0, .int 0, .int 0, .int 0, .int 0]))], gLA cL q1 1044 (vp_updL r (17 + i) (50 : Int64)), gI cI q2 100 (fun _ => (0 : Int32))]) := hD
        refine lv_aload_n hx hb dX11_init_68 rfl (lv_at hl 1 rfl) ?_
        refine va_get (D := D) (ci := 11) (v := .ref q1) (C := RX11) (T := TX11) (N := 10) hx hb hts hinX11 hown hQ.1 hP 0 rfl rfl 0 (by decide) (hts (.fieldLink RX11 7 "HeatPumpPlantModel" "row" "[J") (List.mem_of_getElem? (i := 5) rfl)) (fun _ h9 => h9) rfl dX11_init_69 ?_
        refine lv_bipush (v := (41 : Int32)) hx hb dX11_init_72 (by decide) ?_
        refine lv_iload_n hx hb dX11_init_74 rfl (lv_at hl 0 rfl) ?_
        refine lv_iadd hx hb dX11_init_75 ?_
        refine lv_lconst (v := (1 : Int64)) hx hb dX11_init_76 rfl ?_
        refine w_last (f := (vp_updL r (17 + i) (50 : Int64))) (j := (41 + i)) hx hb hQ.1 hP hD hS 1 1 rfl rfl ((congr (congrArg HAdd.hAdd (show (41 : Int32) = nI 41 from (rfl : (41 : Int32) = nI 41))) (show (nI i) = nI i from rfl)).trans (nI_add 41 i)) (by omega) (by decide) dX11_init_77 (fun H locs hP hD hS => ?_)
        have hP : va_P D vwCl (wF [[(b0, .inr (11, [.ref q1, .int 0, .ref q2, .int 0, .int 0, .int 0, .int 0, .int 0, .int 0, .int 0]))], gLA cL q1 1044 (vp_updL (vp_updL r (17 + i) (50 : Int64)) (41 + i) (1 : Int64)), gI cI q2 100 (fun _ => (0 : Int32))]) H := hP
        have hD : va_D A (wF [[(b0, .inr (11, [.ref q1, .int 0, .ref q2, .int 0, .int 0, .int 0, .int 0, .int 0, .int 0, .int 0]))], gLA cL q1 1044 (vp_updL (vp_updL r (17 + i) (50 : Int64)) (41 + i) (1 : Int64)), gI cI q2 100 (fun _ => (0 : Int32))]) := hD
        refine lv_iinc (v := (nI (i + 1))) (lv' := [(1, .int (nI (i + 1))), (0, .ref b0)]) hx hb dX11_init_78 hl (k := 0) rfl (nI_add i 1) (by decide) rfl (fun ls hl => ?_)
        refine lv_goto (tgt := 50) hx hb dX11_init_81 (by decide) ?_
        have hP : va_P D vwCl (wF [[(b0, .inr (11, [.ref q1, .int 0, .ref q2, .int 0, .int 0, .int 0, .int 0, .int 0, .int 0, .int 0]))], gLA cL q1 1044 (vp_updL (vp_updL r (17 + i) (50 : Int64)) (41 + i) (1 : Int64)), gI cI q2 100 (fun _ => (0 : Int32))]) H := hP
        have hD : va_D A (wF [[(b0, .inr (11, [.ref q1, .int 0, .ref q2, .int 0, .int 0, .int 0, .int 0, .int 0, .int 0, .int 0]))], gLA cL q1 1044 (vp_updL (vp_updL r (17 + i) (50 : Int64)) (41 + i) (1 : Int64)), gI cI q2 100 (fun _ => (0 : Int32))]) := hD
        exact ih (i + 1) (vp_updL (vp_updL r (17 + i) (50 : Int64)) (41 + i) (1 : Int64)) (by omega) (by omega) (fun z hz => kk z (hz.trans ((Eq.trans (if_neg c5) (rfl)).symm))) H locs hP hD hS ls (lv_sub hl [0, 1] rfl)
  have hP : va_P D vwCl (wF [[(b0, .inr (11, [.ref q1, .int 0, .ref q2, .int 0, .int 0, .int 0, .int 0, .int 0, .int 0, .int 0]))], gLA cL q1 1044 z4.2, gI cI q2 100 (fun _ => (0 : Int32))]) H := hP
  have hD : va_D A (wF [[(b0, .inr (11, [.ref q1, .int 0, .ref q2, .int 0, .int 0, .int 0, .int 0, .int 0, .int 0, .int 0]))], gLA cL q1 1044 z4.2, gI cI q2 100 (fun _ => (0 : Int32))]) := hD
  refine loop50 25 0 z4.2 (by omega) (by omega) (fun z6 hz6 hi_z6 H locs hP hD hS ls hl => ?_) H locs hP hD hS ls (lv_sub hl [0, 1] rfl)
  refine lv_aload_n hx hb dX11_init_84 rfl (lv_at hl 1 rfl) ?_
  refine va_get (D := D) (ci := 11) (v := .ref q1) (C := RX11) (T := TX11) (N := 10) hx hb hts hinX11 hown hQ.1 hP 0 rfl rfl 0 (by decide) (hts (.fieldLink RX11 7 "HeatPumpPlantModel" "row" "[J") (List.mem_of_getElem? (i := 5) rfl)) (fun _ h9 => h9) rfl dX11_init_85 ?_
  refine lv_bipush (v := (65 : Int32)) hx hb dX11_init_88 (by decide) ?_
  refine lv_ldc2 (own := RX11) (index := 23) (v := (10 : Int64)) hx hb hown (hts (.constantLong RX11 23 (10)) (List.mem_of_getElem? (i := 9) rfl)) dX11_init_90 ?_
  refine w_last (f := z6.2) (j := 65) hx hb hQ.1 hP hD hS 1 1 rfl rfl (rfl : (65 : Int32) = nI 65) (by omega) (by decide) dX11_init_93 (fun H locs hP hD hS => ?_)
  have hP : va_P D vwCl (wF [[(b0, .inr (11, [.ref q1, .int 0, .ref q2, .int 0, .int 0, .int 0, .int 0, .int 0, .int 0, .int 0]))], gLA cL q1 1044 (vp_updL z6.2 65 (10 : Int64)), gI cI q2 100 (fun _ => (0 : Int32))]) H := hP
  have hD : va_D A (wF [[(b0, .inr (11, [.ref q1, .int 0, .ref q2, .int 0, .int 0, .int 0, .int 0, .int 0, .int 0, .int 0]))], gLA cL q1 1044 (vp_updL z6.2 65 (10 : Int64)), gI cI q2 100 (fun _ => (0 : Int32))]) := hD
  refine lv_aload_n hx hb dX11_init_94 rfl (lv_at hl 1 rfl) ?_
  refine va_get (D := D) (ci := 11) (v := .ref q1) (C := RX11) (T := TX11) (N := 10) hx hb hts hinX11 hown hQ.1 hP 0 rfl rfl 0 (by decide) (hts (.fieldLink RX11 7 "HeatPumpPlantModel" "row" "[J") (List.mem_of_getElem? (i := 5) rfl)) (fun _ h9 => h9) rfl dX11_init_95 ?_
  refine lv_bipush (v := (66 : Int32)) hx hb dX11_init_98 (by decide) ?_
  refine lv_ldc2 (own := RX11) (index := 25) (v := (20 : Int64)) hx hb hown (hts (.constantLong RX11 25 (20)) (List.mem_of_getElem? (i := 10) rfl)) dX11_init_100 ?_
  refine w_last (f := (vp_updL z6.2 65 (10 : Int64))) (j := 66) hx hb hQ.1 hP hD hS 1 1 rfl rfl (rfl : (66 : Int32) = nI 66) (by omega) (by decide) dX11_init_103 (fun H locs hP hD hS => ?_)
  have hP : va_P D vwCl (wF [[(b0, .inr (11, [.ref q1, .int 0, .ref q2, .int 0, .int 0, .int 0, .int 0, .int 0, .int 0, .int 0]))], gLA cL q1 1044 (vp_updL (vp_updL z6.2 65 (10 : Int64)) 66 (20 : Int64)), gI cI q2 100 (fun _ => (0 : Int32))]) H := hP
  have hD : va_D A (wF [[(b0, .inr (11, [.ref q1, .int 0, .ref q2, .int 0, .int 0, .int 0, .int 0, .int 0, .int 0, .int 0]))], gLA cL q1 1044 (vp_updL (vp_updL z6.2 65 (10 : Int64)) 66 (20 : Int64)), gI cI q2 100 (fun _ => (0 : Int32))]) := hD
  refine lv_aload_n hx hb dX11_init_104 rfl (lv_at hl 1 rfl) ?_
  refine va_get (D := D) (ci := 11) (v := .ref q1) (C := RX11) (T := TX11) (N := 10) hx hb hts hinX11 hown hQ.1 hP 0 rfl rfl 0 (by decide) (hts (.fieldLink RX11 7 "HeatPumpPlantModel" "row" "[J") (List.mem_of_getElem? (i := 5) rfl)) (fun _ h9 => h9) rfl dX11_init_105 ?_
  refine lv_bipush (v := (67 : Int32)) hx hb dX11_init_108 (by decide) ?_
  refine lv_ldc2 (own := RX11) (index := 27) (v := (40 : Int64)) hx hb hown (hts (.constantLong RX11 27 (40)) (List.mem_of_getElem? (i := 11) rfl)) dX11_init_110 ?_
  refine w_last (f := (vp_updL (vp_updL z6.2 65 (10 : Int64)) 66 (20 : Int64))) (j := 67) hx hb hQ.1 hP hD hS 1 1 rfl rfl (rfl : (67 : Int32) = nI 67) (by omega) (by decide) dX11_init_113 (fun H locs hP hD hS => ?_)
  have hP : va_P D vwCl (wF [[(b0, .inr (11, [.ref q1, .int 0, .ref q2, .int 0, .int 0, .int 0, .int 0, .int 0, .int 0, .int 0]))], gLA cL q1 1044 (vp_updL (vp_updL (vp_updL z6.2 65 (10 : Int64)) 66 (20 : Int64)) 67 (40 : Int64)), gI cI q2 100 (fun _ => (0 : Int32))]) H := hP
  have hD : va_D A (wF [[(b0, .inr (11, [.ref q1, .int 0, .ref q2, .int 0, .int 0, .int 0, .int 0, .int 0, .int 0, .int 0]))], gLA cL q1 1044 (vp_updL (vp_updL (vp_updL z6.2 65 (10 : Int64)) 66 (20 : Int64)) 67 (40 : Int64)), gI cI q2 100 (fun _ => (0 : Int32))]) := hD
  refine lv_aload_n hx hb dX11_init_114 rfl (lv_at hl 1 rfl) ?_
  refine va_get (D := D) (ci := 11) (v := .ref q1) (C := RX11) (T := TX11) (N := 10) hx hb hts hinX11 hown hQ.1 hP 0 rfl rfl 0 (by decide) (hts (.fieldLink RX11 7 "HeatPumpPlantModel" "row" "[J") (List.mem_of_getElem? (i := 5) rfl)) (fun _ h9 => h9) rfl dX11_init_115 ?_
  refine lv_bipush (v := (68 : Int32)) hx hb dX11_init_118 (by decide) ?_
  refine lv_ldc2 (own := RX11) (index := 29) (v := (2 : Int64)) hx hb hown (hts (.constantLong RX11 29 (2)) (List.mem_of_getElem? (i := 12) rfl)) dX11_init_120 ?_
  refine w_last (f := (vp_updL (vp_updL (vp_updL z6.2 65 (10 : Int64)) 66 (20 : Int64)) 67 (40 : Int64))) (j := 68) hx hb hQ.1 hP hD hS 1 1 rfl rfl (rfl : (68 : Int32) = nI 68) (by omega) (by decide) dX11_init_123 (fun H locs hP hD hS => ?_)
  have hP : va_P D vwCl (wF [[(b0, .inr (11, [.ref q1, .int 0, .ref q2, .int 0, .int 0, .int 0, .int 0, .int 0, .int 0, .int 0]))], gLA cL q1 1044 (vp_updL (vp_updL (vp_updL (vp_updL z6.2 65 (10 : Int64)) 66 (20 : Int64)) 67 (40 : Int64)) 68 (2 : Int64)), gI cI q2 100 (fun _ => (0 : Int32))]) H := hP
  have hD : va_D A (wF [[(b0, .inr (11, [.ref q1, .int 0, .ref q2, .int 0, .int 0, .int 0, .int 0, .int 0, .int 0, .int 0]))], gLA cL q1 1044 (vp_updL (vp_updL (vp_updL (vp_updL z6.2 65 (10 : Int64)) 66 (20 : Int64)) 67 (40 : Int64)) 68 (2 : Int64)), gI cI q2 100 (fun _ => (0 : Int32))]) := hD
  refine lv_aload_n hx hb dX11_init_124 rfl (lv_at hl 1 rfl) ?_
  refine va_get (D := D) (ci := 11) (v := .ref q1) (C := RX11) (T := TX11) (N := 10) hx hb hts hinX11 hown hQ.1 hP 0 rfl rfl 0 (by decide) (hts (.fieldLink RX11 7 "HeatPumpPlantModel" "row" "[J") (List.mem_of_getElem? (i := 5) rfl)) (fun _ h9 => h9) rfl dX11_init_125 ?_
  refine lv_bipush (v := (69 : Int32)) hx hb dX11_init_128 (by decide) ?_
  refine lv_ldc2 (own := RX11) (index := 31) (v := (-150 : Int64)) hx hb hown (hts (.constantLong RX11 31 (-150)) (List.mem_of_getElem? (i := 13) rfl)) dX11_init_130 ?_
  refine w_last (f := (vp_updL (vp_updL (vp_updL (vp_updL z6.2 65 (10 : Int64)) 66 (20 : Int64)) 67 (40 : Int64)) 68 (2 : Int64))) (j := 69) hx hb hQ.1 hP hD hS 1 1 rfl rfl (rfl : (69 : Int32) = nI 69) (by omega) (by decide) dX11_init_133 (fun H locs hP hD hS => ?_)
  have hP : va_P D vwCl (wF [[(b0, .inr (11, [.ref q1, .int 0, .ref q2, .int 0, .int 0, .int 0, .int 0, .int 0, .int 0, .int 0]))], gLA cL q1 1044 (vp_updL (vp_updL (vp_updL (vp_updL (vp_updL z6.2 65 (10 : Int64)) 66 (20 : Int64)) 67 (40 : Int64)) 68 (2 : Int64)) 69 (-150 : Int64)), gI cI q2 100 (fun _ => (0 : Int32))]) H := hP
  have hD : va_D A (wF [[(b0, .inr (11, [.ref q1, .int 0, .ref q2, .int 0, .int 0, .int 0, .int 0, .int 0, .int 0, .int 0]))], gLA cL q1 1044 (vp_updL (vp_updL (vp_updL (vp_updL (vp_updL z6.2 65 (10 : Int64)) 66 (20 : Int64)) 67 (40 : Int64)) 68 (2 : Int64)) 69 (-150 : Int64)), gI cI q2 100 (fun _ => (0 : Int32))]) := hD
  refine lv_aload_n hx hb dX11_init_134 rfl (lv_at hl 1 rfl) ?_
  refine va_get (D := D) (ci := 11) (v := .ref q1) (C := RX11) (T := TX11) (N := 10) hx hb hts hinX11 hown hQ.1 hP 0 rfl rfl 0 (by decide) (hts (.fieldLink RX11 7 "HeatPumpPlantModel" "row" "[J") (List.mem_of_getElem? (i := 5) rfl)) (fun _ h9 => h9) rfl dX11_init_135 ?_
  refine lv_bipush (v := (70 : Int32)) hx hb dX11_init_138 (by decide) ?_
  refine lv_ldc2 (own := RX11) (index := 33) (v := (450 : Int64)) hx hb hown (hts (.constantLong RX11 33 (450)) (List.mem_of_getElem? (i := 14) rfl)) dX11_init_140 ?_
  refine w_last (f := (vp_updL (vp_updL (vp_updL (vp_updL (vp_updL z6.2 65 (10 : Int64)) 66 (20 : Int64)) 67 (40 : Int64)) 68 (2 : Int64)) 69 (-150 : Int64))) (j := 70) hx hb hQ.1 hP hD hS 1 1 rfl rfl (rfl : (70 : Int32) = nI 70) (by omega) (by decide) dX11_init_143 (fun H locs hP hD hS => ?_)
  have hP : va_P D vwCl (wF [[(b0, .inr (11, [.ref q1, .int 0, .ref q2, .int 0, .int 0, .int 0, .int 0, .int 0, .int 0, .int 0]))], gLA cL q1 1044 (vp_updL (vp_updL (vp_updL (vp_updL (vp_updL (vp_updL z6.2 65 (10 : Int64)) 66 (20 : Int64)) 67 (40 : Int64)) 68 (2 : Int64)) 69 (-150 : Int64)) 70 (450 : Int64)), gI cI q2 100 (fun _ => (0 : Int32))]) H := hP
  have hD : va_D A (wF [[(b0, .inr (11, [.ref q1, .int 0, .ref q2, .int 0, .int 0, .int 0, .int 0, .int 0, .int 0, .int 0]))], gLA cL q1 1044 (vp_updL (vp_updL (vp_updL (vp_updL (vp_updL (vp_updL z6.2 65 (10 : Int64)) 66 (20 : Int64)) 67 (40 : Int64)) 68 (2 : Int64)) 69 (-150 : Int64)) 70 (450 : Int64)), gI cI q2 100 (fun _ => (0 : Int32))]) := hD
  refine lv_aload_n hx hb dX11_init_144 rfl (lv_at hl 1 rfl) ?_
  refine va_get (D := D) (ci := 11) (v := .ref q1) (C := RX11) (T := TX11) (N := 10) hx hb hts hinX11 hown hQ.1 hP 0 rfl rfl 0 (by decide) (hts (.fieldLink RX11 7 "HeatPumpPlantModel" "row" "[J") (List.mem_of_getElem? (i := 5) rfl)) (fun _ h9 => h9) rfl dX11_init_145 ?_
  refine lv_bipush (v := (71 : Int32)) hx hb dX11_init_148 (by decide) ?_
  refine lv_ldc2 (own := RX11) (index := 35) (v := (200 : Int64)) hx hb hown (hts (.constantLong RX11 35 (200)) (List.mem_of_getElem? (i := 15) rfl)) dX11_init_150 ?_
  refine w_last (f := (vp_updL (vp_updL (vp_updL (vp_updL (vp_updL (vp_updL z6.2 65 (10 : Int64)) 66 (20 : Int64)) 67 (40 : Int64)) 68 (2 : Int64)) 69 (-150 : Int64)) 70 (450 : Int64))) (j := 71) hx hb hQ.1 hP hD hS 1 1 rfl rfl (rfl : (71 : Int32) = nI 71) (by omega) (by decide) dX11_init_153 (fun H locs hP hD hS => ?_)
  have hP : va_P D vwCl (wF [[(b0, .inr (11, [.ref q1, .int 0, .ref q2, .int 0, .int 0, .int 0, .int 0, .int 0, .int 0, .int 0]))], gLA cL q1 1044 (vp_updL (vp_updL (vp_updL (vp_updL (vp_updL (vp_updL (vp_updL z6.2 65 (10 : Int64)) 66 (20 : Int64)) 67 (40 : Int64)) 68 (2 : Int64)) 69 (-150 : Int64)) 70 (450 : Int64)) 71 (200 : Int64)), gI cI q2 100 (fun _ => (0 : Int32))]) H := hP
  have hD : va_D A (wF [[(b0, .inr (11, [.ref q1, .int 0, .ref q2, .int 0, .int 0, .int 0, .int 0, .int 0, .int 0, .int 0]))], gLA cL q1 1044 (vp_updL (vp_updL (vp_updL (vp_updL (vp_updL (vp_updL (vp_updL z6.2 65 (10 : Int64)) 66 (20 : Int64)) 67 (40 : Int64)) 68 (2 : Int64)) 69 (-150 : Int64)) 70 (450 : Int64)) 71 (200 : Int64)), gI cI q2 100 (fun _ => (0 : Int32))]) := hD
  refine lv_aload_n hx hb dX11_init_154 rfl (lv_at hl 1 rfl) ?_
  refine va_get (D := D) (ci := 11) (v := .ref q1) (C := RX11) (T := TX11) (N := 10) hx hb hts hinX11 hown hQ.1 hP 0 rfl rfl 0 (by decide) (hts (.fieldLink RX11 7 "HeatPumpPlantModel" "row" "[J") (List.mem_of_getElem? (i := 5) rfl)) (fun _ h9 => h9) rfl dX11_init_155 ?_
  refine lv_bipush (v := (72 : Int32)) hx hb dX11_init_158 (by decide) ?_
  refine lv_ldc2 (own := RX11) (index := 37) (v := (250 : Int64)) hx hb hown (hts (.constantLong RX11 37 (250)) (List.mem_of_getElem? (i := 16) rfl)) dX11_init_160 ?_
  refine w_last (f := (vp_updL (vp_updL (vp_updL (vp_updL (vp_updL (vp_updL (vp_updL z6.2 65 (10 : Int64)) 66 (20 : Int64)) 67 (40 : Int64)) 68 (2 : Int64)) 69 (-150 : Int64)) 70 (450 : Int64)) 71 (200 : Int64))) (j := 72) hx hb hQ.1 hP hD hS 1 1 rfl rfl (rfl : (72 : Int32) = nI 72) (by omega) (by decide) dX11_init_163 (fun H locs hP hD hS => ?_)
  have hP : va_P D vwCl (wF [[(b0, .inr (11, [.ref q1, .int 0, .ref q2, .int 0, .int 0, .int 0, .int 0, .int 0, .int 0, .int 0]))], gLA cL q1 1044 (vp_updL (vp_updL (vp_updL (vp_updL (vp_updL (vp_updL (vp_updL (vp_updL z6.2 65 (10 : Int64)) 66 (20 : Int64)) 67 (40 : Int64)) 68 (2 : Int64)) 69 (-150 : Int64)) 70 (450 : Int64)) 71 (200 : Int64)) 72 (250 : Int64)), gI cI q2 100 (fun _ => (0 : Int32))]) H := hP
  have hD : va_D A (wF [[(b0, .inr (11, [.ref q1, .int 0, .ref q2, .int 0, .int 0, .int 0, .int 0, .int 0, .int 0, .int 0]))], gLA cL q1 1044 (vp_updL (vp_updL (vp_updL (vp_updL (vp_updL (vp_updL (vp_updL (vp_updL z6.2 65 (10 : Int64)) 66 (20 : Int64)) 67 (40 : Int64)) 68 (2 : Int64)) 69 (-150 : Int64)) 70 (450 : Int64)) 71 (200 : Int64)) 72 (250 : Int64)), gI cI q2 100 (fun _ => (0 : Int32))]) := hD
  have hP : va_P D vwCl (wF [gN b0 q1 q2 ((0, 0, 0, (0 : Int32), (0 : Int32), (0 : Int32), (0 : Int32), (0 : Int32)) : MoN), gR cL q1 (vp_updL (vp_updL (vp_updL (vp_updL (vp_updL (vp_updL (vp_updL (vp_updL z6.2 65 (10 : Int64)) 66 (20 : Int64)) 67 (40 : Int64)) 68 (2 : Int64)) 69 (-150 : Int64)) 70 (450 : Int64)) 71 (200 : Int64)) 72 (250 : Int64)), gI cI q2 100 (fun _ => (0 : Int32))]) H := hP
  have hD : va_D A (wF [gN b0 q1 q2 ((0, 0, 0, (0 : Int32), (0 : Int32), (0 : Int32), (0 : Int32), (0 : Int32)) : MoN), gR cL q1 (vp_updL (vp_updL (vp_updL (vp_updL (vp_updL (vp_updL (vp_updL (vp_updL z6.2 65 (10 : Int64)) 66 (20 : Int64)) 67 (40 : Int64)) 68 (2 : Int64)) 69 (-150 : Int64)) 70 (450 : Int64)) 71 (200 : Int64)) 72 (250 : Int64)), gI cI q2 100 (fun _ => (0 : Int32))]) := hD
  refine lv_aload_n hx hb dX11_init_164 rfl (lv_at hl 1 rfl) ?_
  refine lv_sipush (v := (700 : Int32)) hx hb dX11_init_165 (by decide) ?_
  refine lv_sipush (v := (300 : Int32)) hx hb dX11_init_168 (by decide) ?_
  have hPc : va_P D vwCl (wF [gN b0 q1 q2 ((0, 0, 0, (0 : Int32), (0 : Int32), (0 : Int32), (0 : Int32), (0 : Int32)) : MoN), gR cL q1 (vp_updL (vp_updL (vp_updL (vp_updL (vp_updL (vp_updL (vp_updL (vp_updL z6.2 65 (10 : Int64)) 66 (20 : Int64)) 67 (40 : Int64)) 68 (2 : Int64)) 69 (-150 : Int64)) 70 (450 : Int64)) 71 (200 : Int64)) 72 (250 : Int64))]) H := w_psub hP [0, 1] rfl
  have hDc : va_D A (wF [gN b0 q1 q2 ((0, 0, 0, (0 : Int32), (0 : Int32), (0 : Int32), (0 : Int32), (0 : Int32)) : MoN), gR cL q1 (vp_updL (vp_updL (vp_updL (vp_updL (vp_updL (vp_updL (vp_updL (vp_updL z6.2 65 (10 : Int64)) 66 (20 : Int64)) 67 (40 : Int64)) 68 (2 : Int64)) 69 (-150 : Int64)) 70 (450 : Int64)) 71 (200 : Int64)) 72 (250 : Int64))]) := w_gsub hD [0, 1] rfl rfl
  refine c_Mv (F := F11_layEnergies (vp_updL (vp_updL (vp_updL (vp_updL (vp_updL (vp_updL (vp_updL (vp_updL z6.2 65 (10 : Int64)) 66 (20 : Int64)) 67 (40 : Int64)) 68 (2 : Int64)) 69 (-150 : Int64)) 70 (450 : Int64)) 71 (200 : Int64)) 72 (250 : Int64)) (700 : Int32) (300 : Int32)) (G1 := (fun w => [gN b0 q1 q2 ((0, 0, 0, (0 : Int32), (0 : Int32), (0 : Int32), (0 : Int32), (0 : Int32)) : MoN), gR cL q1 w])) (Gr := [gI cI q2 100 (fun _ => (0 : Int32))]) (Gs' := fun z7 => [gN b0 q1 q2 ((0, 0, 0, (0 : Int32), (0 : Int32), (0 : Int32), (0 : Int32), (0 : Int32)) : MoN), gR cL q1 z7, gI cI q2 100 (fun _ => (0 : Int32))]) (va_runV (As := [.int (700 : Int32), .int (300 : Int32)]) (rest := []) ⟨hx, hb, hml, hown, hts⟩ (m11_layEnergies l D cI cL cP b0 q2 q1 ((0, 0, 0, (0 : Int32), (0 : Int32), (0 : Int32), (0 : Int32), (0 : Int32)) : MoN) (vp_updL (vp_updL (vp_updL (vp_updL (vp_updL (vp_updL (vp_updL (vp_updL z6.2 65 (10 : Int64)) 66 (20 : Int64)) 67 (40 : Int64)) 68 (2 : Int64)) 69 (-150 : Int64)) 70 (450 : Int64)) 71 (200 : Int64)) 72 (250 : Int64)) (700 : Int32) (300 : Int32) H.size) (cwV 2 hts gX11_init_X11_layEnergies rfl rfl rfl (by decide +kernel) ⟨Nat.le_of_ble_eq_true rfl, Nat.le_of_ble_eq_true rfl⟩) (preM_V (q := (RX11, TX11, 10)) (q0 := 0) hQ hPc hDc rfl rfl) rfl rfl hl.1 rfl (lv_room (Nat.le_of_ble_eq_true rfl)) dX11_init_171 ⟨Nat.le_of_ble_eq_true rfl, Nat.le_of_ble_eq_true rfl⟩) hS hA hP hD [0, 1] [2] [0, 1, 2] rfl rfl rfl rfl rfl (fun _ => rfl) (fun z7 H locs hz7 hP hD hS => ?_)
  have hP : va_P D vwCl (wF [gN b0 q1 q2 ((0, 0, 0, (0 : Int32), (0 : Int32), (0 : Int32), (0 : Int32), (0 : Int32)) : MoN), gR cL q1 z7, gI cI q2 100 (fun _ => (0 : Int32))]) H := hP
  have hD : va_D A (wF [gN b0 q1 q2 ((0, 0, 0, (0 : Int32), (0 : Int32), (0 : Int32), (0 : Int32), (0 : Int32)) : MoN), gR cL q1 z7, gI cI q2 100 (fun _ => (0 : Int32))]) := hD
  refine lv_aload_n hx hb dX11_init_174 rfl (lv_at hl 1 rfl) ?_
  refine va_get (D := D) (ci := 11) (v := .ref q1) (C := RX11) (T := TX11) (N := 10) hx hb hts hinX11 hown hQ.1 hP 0 rfl rfl 0 (by decide) (hts (.fieldLink RX11 7 "HeatPumpPlantModel" "row" "[J") (List.mem_of_getElem? (i := 5) rfl)) (fun _ h9 => h9) rfl dX11_init_175 ?_
  refine lv_bipush (v := (88 : Int32)) hx hb dX11_init_178 (by decide) ?_
  refine lv_ldc2 (own := RX11) (index := 43) (v := (1000 : Int64)) hx hb hown (hts (.constantLong RX11 43 (1000)) (List.mem_of_getElem? (i := 17) rfl)) dX11_init_180 ?_
  refine w_last (f := z7) (j := 88) hx hb hQ.1 hP hD hS 1 1 rfl rfl (rfl : (88 : Int32) = nI 88) (by omega) (by decide) dX11_init_183 (fun H locs hP hD hS => ?_)
  have hP : va_P D vwCl (wF [gN b0 q1 q2 ((0, 0, 0, (0 : Int32), (0 : Int32), (0 : Int32), (0 : Int32), (0 : Int32)) : MoN), gR cL q1 (vp_updL z7 88 (1000 : Int64)), gI cI q2 100 (fun _ => (0 : Int32))]) H := hP
  have hD : va_D A (wF [gN b0 q1 q2 ((0, 0, 0, (0 : Int32), (0 : Int32), (0 : Int32), (0 : Int32), (0 : Int32)) : MoN), gR cL q1 (vp_updL z7 88 (1000 : Int64)), gI cI q2 100 (fun _ => (0 : Int32))]) := hD
  refine lv_aload_n hx hb dX11_init_184 rfl (lv_at hl 1 rfl) ?_
  refine va_get (D := D) (ci := 11) (v := .ref q1) (C := RX11) (T := TX11) (N := 10) hx hb hts hinX11 hown hQ.1 hP 0 rfl rfl 0 (by decide) (hts (.fieldLink RX11 7 "HeatPumpPlantModel" "row" "[J") (List.mem_of_getElem? (i := 5) rfl)) (fun _ h9 => h9) rfl dX11_init_185 ?_
  refine lv_bipush (v := (92 : Int32)) hx hb dX11_init_188 (by decide) ?_
  refine lv_ldc2 (own := RX11) (index := 45) (v := (-9999 : Int64)) hx hb hown (hts (.constantLong RX11 45 (-9999)) (List.mem_of_getElem? (i := 18) rfl)) dX11_init_190 ?_
  refine w_last (f := (vp_updL z7 88 (1000 : Int64))) (j := 92) hx hb hQ.1 hP hD hS 1 1 rfl rfl (rfl : (92 : Int32) = nI 92) (by omega) (by decide) dX11_init_193 (fun H locs hP hD hS => ?_)
  have hP : va_P D vwCl (wF [gN b0 q1 q2 ((0, 0, 0, (0 : Int32), (0 : Int32), (0 : Int32), (0 : Int32), (0 : Int32)) : MoN), gR cL q1 (vp_updL (vp_updL z7 88 (1000 : Int64)) 92 (-9999 : Int64)), gI cI q2 100 (fun _ => (0 : Int32))]) H := hP
  have hD : va_D A (wF [gN b0 q1 q2 ((0, 0, 0, (0 : Int32), (0 : Int32), (0 : Int32), (0 : Int32), (0 : Int32)) : MoN), gR cL q1 (vp_updL (vp_updL z7 88 (1000 : Int64)) 92 (-9999 : Int64)), gI cI q2 100 (fun _ => (0 : Int32))]) := hD
  exact W.vret hx hb hr (fun t ht hW => ⟨⟨(q1, q2, (vp_updL (vp_updL z7 88 (1000 : Int64)) 92 (-9999 : Int64))), rfl, ((Eq.trans (congrArg (K11_init_1) hz4.symm) (Eq.trans (congrArg (K11_init_2 z4) hz6.symm) (Eq.trans (congrArg (K11_init_3 z4 z6) hz7.symm) (rfl)))).symm), by rw [ht]; exact hP, hD⟩, hS.F ht⟩) hS.2.2 dX11_init_194
