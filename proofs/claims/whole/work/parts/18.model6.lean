def L11_digest_12 (x0 : MoN) (x1 : (Nat → Int64)) : Nat → Nat → Int64 → Nat × Int64
  | 0, _, _ => default
  | fu + 1, i, zz => (if 17 ≤ i then (i, zz) else ((L11_digest_12 x0 x1 fu) (i + 1) (((31 : Int64) * zz) + (F11_setting x1 (nI i)).toInt64)))
def L11_digest_39 (x0 : MoN) (x1 : (Nat → Int64)) (z2 : Nat × Int64) : Nat → Nat → Int64 → Nat × Int64
  | 0, _, _ => default
  | fu + 1, i, zz => (if 24 ≤ i then (i, zz) else ((L11_digest_39 x0 x1 z2 fu) (i + 1) (((31 : Int64) * (((31 : Int64) * (((31 : Int64) * (((31 : Int64) * zz) + (F11_outdoor x1 (nI i)).toInt64)) + (F11_tariff x1 (nI i)).toInt64)) + (F11_demand x1 (nI i)).toInt64)) + (F11_target x0 x1 (nI i)).toInt64)))
def L11_digest_135 (x0 : MoN) (x1 : (Nat → Int64)) (z2 : Nat × Int64) (z4 : Nat × Int64) : Nat → Nat → Int64 → Nat × Int64
  | 0, _, _ => default
  | fu + 1, i, zz => (if 4 ≤ i then (i, zz) else ((L11_digest_135 x0 x1 z2 z4 fu) (i + 1) (((31 : Int64) * zz) + (F11_temperature x1 (nI i)).toInt64)))
def L11_digest_196 (x0 : MoN) (x1 : (Nat → Int64)) (z2 : Nat × Int64) (z4 : Nat × Int64) (z15 : Nat × Int64) : Nat → Nat → Int64 → Nat × Int64
  | 0, _, _ => default
  | fu + 1, i, zz => (if 12 ≤ i then (i, zz) else ((L11_digest_196 x0 x1 z2 z4 z15 fu) (i + 1) (((31 : Int64) * zz) + (F11_minutesWith x1 (nI i)).toInt64)))
def L11_digest_271 (x0 : MoN) (x1 : (Nat → Int64)) (z2 : Nat × Int64) (z4 : Nat × Int64) (z15 : Nat × Int64) (z17 : Nat × Int64) : Nat → Nat → Int64 → Nat × Int64
  | 0, _, _ => default
  | fu + 1, i, zz => (if 7 ≤ i then (i, zz) else ((L11_digest_271 x0 x1 z2 z4 z15 z17 fu) (i + 1) (((31 : Int64) * zz) + (x1 (107 + i)))))
def K11_digest_5 (x0 : MoN) (x1 : (Nat → Int64)) (z2 : Nat × Int64) (z4 : Nat × Int64) (z15 : Nat × Int64) (z17 : Nat × Int64) (z19 : Nat × Int64) : Int64 := (((31 : Int64) * (((31 : Int64) * z19.2) + (nI x0.2.1).toInt64)) + (nI x0.1).toInt64)
def K11_digest_4 (x0 : MoN) (x1 : (Nat → Int64)) (z2 : Nat × Int64) (z4 : Nat × Int64) (z15 : Nat × Int64) (z17 : Nat × Int64) : Int64 := (K11_digest_5 x0 x1 z2 z4 z15 z17 (L11_digest_271 x0 x1 z2 z4 z15 z17 8 0 (((31 : Int64) * (((31 : Int64) * (((31 : Int64) * (((31 : Int64) * z17.2) + (F11_startsLastHour x0 x1).toInt64)) + (F11_starts x1).toInt64)) + (F11_defrosts x1).toInt64)) + (F11_frost x1).toInt64)))
def K11_digest_3 (x0 : MoN) (x1 : (Nat → Int64)) (z2 : Nat × Int64) (z4 : Nat × Int64) (z15 : Nat × Int64) : Int64 := (K11_digest_4 x0 x1 z2 z4 z15 (L11_digest_196 x0 x1 z2 z4 z15 13 0 (((31 : Int64) * (((31 : Int64) * (((31 : Int64) * z15.2) + (F11_stored x1))) + (F11_pump x1).toInt64)) + (F11_reason x1).toInt64)))
def K11_digest_2 (x0 : MoN) (x1 : (Nat → Int64)) (z2 : Nat × Int64) (z4 : Nat × Int64) : Int64 := (K11_digest_3 x0 x1 z2 z4 (L11_digest_135 x0 x1 z2 z4 5 0 (((31 : Int64) * (((31 : Int64) * (((31 : Int64) * (((31 : Int64) * (((31 : Int64) * (((31 : Int64) * (((31 : Int64) * (((31 : Int64) * z4.2) + (F11_supply x0 x1 (-300 : Int32)).toInt64)) + (F11_supply x0 x1 (-200 : Int32)).toInt64)) + (F11_supply x0 x1 (-100 : Int32)).toInt64)) + (F11_supply x0 x1 (0 : Int32)).toInt64)) + (F11_supply x0 x1 (100 : Int32)).toInt64)) + (F11_supply x0 x1 (200 : Int32)).toInt64)) + (F11_supply x0 x1 (300 : Int32)).toInt64)) + (F11_supply x0 x1 (400 : Int32)).toInt64)))
def K11_digest_1 (x0 : MoN) (x1 : (Nat → Int64)) (z2 : Nat × Int64) : Int64 := (K11_digest_2 x0 x1 z2 (L11_digest_39 x0 x1 z2 25 0 z2.2))
def F11_digest (x0 : MoN) (x1 : (Nat → Int64)) : Int64 := (K11_digest_1 x0 x1 (L11_digest_12 x0 x1 18 0 ((610700 : Int64) + (F11_time x1).toInt64)))
set_option maxHeartbeats 4000000 in
set_option maxRecDepth 100000 in
theorem m11_digest (l : Launch) (D : va_G) (cI cL cP : ClassId) (b0 : Nat) (b1 : Nat) (b2 : Nat) (x0 : MoN) (x1 : (Nat → Int64)) (hk : x0.1 ≤ 4) (hlen : x0.2.1 ≤ 100) (h81 : ¬ x1 81 = 0) (hc : (x1 68).toInt ≤ 6) (hc1 : 1 ≤ (x1 68).toInt) (H0 : Heap) : Met l yX11_digest wsX11_digest ({ frames := 4, cells := 0, slots := 0, locals := 99 }) (va_Pc [.ref b0] (pR D cI cL cP H0 (wF [gN b0 b2 b1 x0, gR cL b2 x1]))) (va_Ql (fun (r : Int64) (_ : Unit) => r = F11_digest x0 x1) (qE H0) nF) 0 0 nF := by
  refine Met.ofW (cc := cX11_digest) (maxL := 4) (ret := (some .long)) (by decide) rfl ?_
  intro p e s m args below meth c s₁ B hml hv
  obtain ⟨rfl, rfl, hP, hQ⟩ := hv
  have hx := B.exec
  have hb := B.bytes
  have hr := B.returns
  have hts := atoms_spec (ws := wsX11_digest) B.pre
  have hown : s.vm.findClass RX11 = some m.cls := findClass_of_methodNamed B.named
  have hlocks := B.notSynchronized
  have hS : va_S nF s.heap s.heap [] := va_S.rf
  have hl := lv_entry ([.ref b0]) (n := 4) (Nat.le_of_ble_eq_true rfl)
  rw [lg_entry_eq]
  generalize (lg_sl ([.ref b0]) ++ List.replicate (4 - (lg_sl ([.ref b0])).length) Slot.unset).toArray = ls at hl ⊢
  have hl : lv_has ls 4 [(0, .ref b0)] := hl
  have hinX11 : ∀ w ∈ wsX110, w ∈ wsX11_digest := fun _ h => List.mem_cons_of_mem _ (List.mem_append_right _ h)
  refine lv_ldc2 (own := RX11) (index := 242) (v := (610700 : Int64)) hx hb hown (hts (.constantLong RX11 242 (610700)) (List.mem_of_getElem? (i := 1) rfl)) dX11_digest_0 ?_
  refine lv_aload_n hx hb dX11_digest_3 rfl (lv_at hl 0 rfl) ?_
  have hPc : va_P D vwCl (wF [gN b0 b2 b1 x0, gR cL b2 x1]) s.heap := hP.sub [0, 1] rfl
  refine c_Ri (va_runV (As := []) (rest := [.long (610700 : Int64)]) ⟨hx, hb, hml, hown, hts⟩ (m11_time l D cI cL cP b0 b1 b2 x0 x1 s.heap) (cwV 0 hts gX11_digest_X11_time rfl rfl rfl (by decide +kernel) ⟨Nat.le_of_ble_eq_true rfl, Nat.le_of_ble_eq_true rfl⟩) (preR_V (q := (RX11, TX11, 10)) (q0 := 0) hQ hPc rfl rfl) rfl rfl hl.1 rfl (lv_room (Nat.le_of_ble_eq_true rfl)) dX11_digest_4 ⟨Nat.le_of_ble_eq_true rfl, Nat.le_of_ble_eq_true rfl⟩) hS (fun locs hS => ?_)
  refine lv_i2l hx hb dX11_digest_7 rfl ?_
  refine lv_ladd hx hb dX11_digest_8 ?_
  refine lv_lstore_n (lv' := [(1, .long ((610700 : Int64) + (F11_time x1).toInt64)), (0, .ref b0)]) hx hb dX11_digest_9 rfl hl (by decide) rfl (fun ls hl => ?_)
  refine lv_iconst (v := (0 : Int32)) hx hb dX11_digest_10 (by decide) ?_
  refine lv_istore_n (lv' := [(3, .int (0 : Int32)), (1, .long ((610700 : Int64) + (F11_time x1).toInt64)), (0, .ref b0)]) hx hb dX11_digest_11 rfl hl (by decide) rfl (fun ls hl => ?_)
  have loop12 : ∀ (fu : Nat) (i : Nat) (zz : Int64) (hi : i ≤ 17) (hm : 17 - i < fu) (kk : ∀ z : Nat × Int64, z = L11_digest_12 x0 x1 fu i zz → ((z.1) ≤ 17) → ∀ (locs : List Loc) (_ : va_S nF s.heap s.heap locs) (ls : Array Slot) (_ : lv_has ls 4 [(3, .int (nI z.1)), (1, .long z.2), (0, .ref b0)]), W p l e (headSpec wsX11_digest ({ frames := 4, cells := 0, slots := 0, locals := 99 })).room s m #[.ref b0] below meth c s.heap locs 0 0 (MQ below (va_Ql (fun (r : Int64) (_ : Unit) => r = F11_digest x0 x1) (qE s.heap) nF) #[.ref b0] s 0 0 nF) (F0 m 37 ls [])), ∀ (locs : List Loc) (_ : va_S nF s.heap s.heap locs) (ls : Array Slot) (_ : lv_has ls 4 [(3, .int (nI i)), (1, .long zz), (0, .ref b0)]), W p l e (headSpec wsX11_digest ({ frames := 4, cells := 0, slots := 0, locals := 99 })).room s m #[.ref b0] below meth c s.heap locs 0 0 (MQ below (va_Ql (fun (r : Int64) (_ : Unit) => r = F11_digest x0 x1) (qE s.heap) nF) #[.ref b0] s 0 0 nF) (F0 m 12 ls []) := by
    intro fu
    induction fu with
    | zero => intro i zz hi hm; exact absurd hm (by omega)
    | succ fu ih =>
      intro i zz hi hm kk locs hS ls hl
      refine lv_iload_n hx hb dX11_digest_12 rfl (lv_at hl 0 rfl) ?_
      refine lv_bipush (v := (17 : Int32)) hx hb dX11_digest_13 (by decide) ?_
      refine lv_icmp_ge (tgt := 37) hx hb dX11_digest_15 (by decide) (fun c1 => ?_) (fun c1 => ?_)
      · have c1 : 17 ≤ i := (nI_leI (a := 17) (b := i) (by omega) (by omega)).mp c1
        exact kk (i, zz) ((Eq.trans (if_pos c1) (rfl)).symm) hi locs hS ls (lv_sub hl [0, 1, 2] rfl)
      · have c1 : ¬ (17 ≤ i) := fun h9 => c1 ((nI_leI (a := 17) (b := i) (by omega) (by omega)).mpr h9)
        refine lv_ldc2 (own := RX11) (index := 247) (v := (31 : Int64)) hx hb hown (hts (.constantLong RX11 247 (31)) (List.mem_of_getElem? (i := 2) rfl)) dX11_digest_18 ?_
        refine lv_lload_n hx hb dX11_digest_21 rfl (lv_at hl 1 rfl) ?_
        refine lv_lmul hx hb dX11_digest_22 ?_
        refine lv_aload_n hx hb dX11_digest_23 rfl (lv_at hl 2 rfl) ?_
        refine lv_iload_n hx hb dX11_digest_24 rfl (lv_at hl 0 rfl) ?_
        have hPc : va_P D vwCl (wF [gN b0 b2 b1 x0, gR cL b2 x1]) s.heap := hP.sub [0, 1] rfl
        refine c_Ri (va_runV (As := [.int (nI i)]) (rest := [.long ((31 : Int64) * zz)]) ⟨hx, hb, hml, hown, hts⟩ (m11_setting l D cI cL cP b0 b1 b2 x0 x1 (nI i) s.heap) (cwV 1 hts gX11_digest_X11_setting rfl rfl rfl (by decide +kernel) ⟨Nat.le_of_ble_eq_true rfl, Nat.le_of_ble_eq_true rfl⟩) (preR_V (q := (RX11, TX11, 10)) (q0 := 0) hQ hPc rfl rfl) rfl rfl hl.1 rfl (lv_room (Nat.le_of_ble_eq_true rfl)) dX11_digest_25 ⟨Nat.le_of_ble_eq_true rfl, Nat.le_of_ble_eq_true rfl⟩) hS (fun locs hS => ?_)
        refine lv_i2l hx hb dX11_digest_28 rfl ?_
        refine lv_ladd hx hb dX11_digest_29 ?_
        refine lv_lstore_n (lv' := [(1, .long (((31 : Int64) * zz) + (F11_setting x1 (nI i)).toInt64)), (3, .int (nI i)), (0, .ref b0)]) hx hb dX11_digest_30 rfl hl (by decide) rfl (fun ls hl => ?_)
        refine lv_iinc (v := (nI (i + 1))) (lv' := [(3, .int (nI (i + 1))), (1, .long (((31 : Int64) * zz) + (F11_setting x1 (nI i)).toInt64)), (0, .ref b0)]) hx hb dX11_digest_31 hl (k := 1) rfl (nI_add i 1) (by decide) rfl (fun ls hl => ?_)
        refine lv_goto (tgt := 12) hx hb dX11_digest_34 (by decide) ?_
        exact ih (i + 1) (((31 : Int64) * zz) + (F11_setting x1 (nI i)).toInt64) (by omega) (by omega) (fun z hz => kk z (hz.trans ((Eq.trans (if_neg c1) (rfl)).symm))) locs hS ls (lv_sub hl [0, 1, 2] rfl)
  refine loop12 18 0 ((610700 : Int64) + (F11_time x1).toInt64) (by omega) (by omega) (fun z2 hz2 hi_z2 locs hS ls hl => ?_) locs hS ls (lv_sub hl [0, 1, 2] rfl)
  refine lv_iconst (v := (0 : Int32)) hx hb dX11_digest_37 (by decide) ?_
  refine lv_istore_n (lv' := [(3, .int (0 : Int32)), (1, .long z2.2), (0, .ref b0)]) hx hb dX11_digest_38 rfl hl (by decide) rfl (fun ls hl => ?_)
  have loop39 : ∀ (fu : Nat) (i : Nat) (zz : Int64) (hi : i ≤ 24) (hm : 24 - i < fu) (kk : ∀ z : Nat × Int64, z = L11_digest_39 x0 x1 z2 fu i zz → ((z.1) ≤ 24) → ∀ (locs : List Loc) (_ : va_S nF s.heap s.heap locs) (ls : Array Slot) (_ : lv_has ls 4 [(3, .int (nI z.1)), (1, .long z.2), (0, .ref b0)]), W p l e (headSpec wsX11_digest ({ frames := 4, cells := 0, slots := 0, locals := 99 })).room s m #[.ref b0] below meth c s.heap locs 0 0 (MQ below (va_Ql (fun (r : Int64) (_ : Unit) => r = F11_digest x0 x1) (qE s.heap) nF) #[.ref b0] s 0 0 nF) (F0 m 103 ls [])), ∀ (locs : List Loc) (_ : va_S nF s.heap s.heap locs) (ls : Array Slot) (_ : lv_has ls 4 [(3, .int (nI i)), (1, .long zz), (0, .ref b0)]), W p l e (headSpec wsX11_digest ({ frames := 4, cells := 0, slots := 0, locals := 99 })).room s m #[.ref b0] below meth c s.heap locs 0 0 (MQ below (va_Ql (fun (r : Int64) (_ : Unit) => r = F11_digest x0 x1) (qE s.heap) nF) #[.ref b0] s 0 0 nF) (F0 m 39 ls []) := by
    intro fu
    induction fu with
    | zero => intro i zz hi hm; exact absurd hm (by omega)
    | succ fu ih =>
      intro i zz hi hm kk locs hS ls hl
      refine lv_iload_n hx hb dX11_digest_39 rfl (lv_at hl 0 rfl) ?_
      refine lv_bipush (v := (24 : Int32)) hx hb dX11_digest_40 (by decide) ?_
      refine lv_icmp_ge (tgt := 103) hx hb dX11_digest_42 (by decide) (fun c3 => ?_) (fun c3 => ?_)
      · have c3 : 24 ≤ i := (nI_leI (a := 24) (b := i) (by omega) (by omega)).mp c3
        exact kk (i, zz) ((Eq.trans (if_pos c3) (rfl)).symm) hi locs hS ls (lv_sub hl [0, 1, 2] rfl)
      · have c3 : ¬ (24 ≤ i) := fun h9 => c3 ((nI_leI (a := 24) (b := i) (by omega) (by omega)).mpr h9)
        refine lv_ldc2 (own := RX11) (index := 247) (v := (31 : Int64)) hx hb hown (hts (.constantLong RX11 247 (31)) (List.mem_of_getElem? (i := 2) rfl)) dX11_digest_45 ?_
        refine lv_lload_n hx hb dX11_digest_48 rfl (lv_at hl 1 rfl) ?_
        refine lv_lmul hx hb dX11_digest_49 ?_
        refine lv_aload_n hx hb dX11_digest_50 rfl (lv_at hl 2 rfl) ?_
        refine lv_iload_n hx hb dX11_digest_51 rfl (lv_at hl 0 rfl) ?_
        have hPc : va_P D vwCl (wF [gN b0 b2 b1 x0, gR cL b2 x1]) s.heap := hP.sub [0, 1] rfl
        refine c_Ri (va_runV (As := [.int (nI i)]) (rest := [.long ((31 : Int64) * zz)]) ⟨hx, hb, hml, hown, hts⟩ (m11_outdoor l D cI cL cP b0 b1 b2 x0 x1 (nI i) s.heap) (cwV 1 hts gX11_digest_X11_outdoor rfl rfl rfl (by decide +kernel) ⟨Nat.le_of_ble_eq_true rfl, Nat.le_of_ble_eq_true rfl⟩) (preR_V (q := (RX11, TX11, 10)) (q0 := 0) hQ hPc rfl rfl) rfl rfl hl.1 rfl (lv_room (Nat.le_of_ble_eq_true rfl)) dX11_digest_52 ⟨Nat.le_of_ble_eq_true rfl, Nat.le_of_ble_eq_true rfl⟩) hS (fun locs hS => ?_)
        refine lv_i2l hx hb dX11_digest_55 rfl ?_
        refine lv_ladd hx hb dX11_digest_56 ?_
        refine lv_lstore_n (lv' := [(1, .long (((31 : Int64) * zz) + (F11_outdoor x1 (nI i)).toInt64)), (3, .int (nI i)), (0, .ref b0)]) hx hb dX11_digest_57 rfl hl (by decide) rfl (fun ls hl => ?_)
        refine lv_ldc2 (own := RX11) (index := 247) (v := (31 : Int64)) hx hb hown (hts (.constantLong RX11 247 (31)) (List.mem_of_getElem? (i := 2) rfl)) dX11_digest_58 ?_
        refine lv_lload_n hx hb dX11_digest_61 rfl (lv_at hl 0 rfl) ?_
        refine lv_lmul hx hb dX11_digest_62 ?_
        refine lv_aload_n hx hb dX11_digest_63 rfl (lv_at hl 2 rfl) ?_
        refine lv_iload_n hx hb dX11_digest_64 rfl (lv_at hl 1 rfl) ?_
        have hPc : va_P D vwCl (wF [gN b0 b2 b1 x0, gR cL b2 x1]) s.heap := hP.sub [0, 1] rfl
        refine c_Ri (va_runV (As := [.int (nI i)]) (rest := [.long ((31 : Int64) * (((31 : Int64) * zz) + (F11_outdoor x1 (nI i)).toInt64))]) ⟨hx, hb, hml, hown, hts⟩ (m11_tariff l D cI cL cP b0 b1 b2 x0 x1 (nI i) s.heap) (cwV 1 hts gX11_digest_X11_tariff rfl rfl rfl (by decide +kernel) ⟨Nat.le_of_ble_eq_true rfl, Nat.le_of_ble_eq_true rfl⟩) (preR_V (q := (RX11, TX11, 10)) (q0 := 0) hQ hPc rfl rfl) rfl rfl hl.1 rfl (lv_room (Nat.le_of_ble_eq_true rfl)) dX11_digest_65 ⟨Nat.le_of_ble_eq_true rfl, Nat.le_of_ble_eq_true rfl⟩) hS (fun locs hS => ?_)
        refine lv_i2l hx hb dX11_digest_68 rfl ?_
        refine lv_ladd hx hb dX11_digest_69 ?_
        refine lv_lstore_n (lv' := [(1, .long (((31 : Int64) * (((31 : Int64) * zz) + (F11_outdoor x1 (nI i)).toInt64)) + (F11_tariff x1 (nI i)).toInt64)), (3, .int (nI i)), (0, .ref b0)]) hx hb dX11_digest_70 rfl hl (by decide) rfl (fun ls hl => ?_)
        refine lv_ldc2 (own := RX11) (index := 247) (v := (31 : Int64)) hx hb hown (hts (.constantLong RX11 247 (31)) (List.mem_of_getElem? (i := 2) rfl)) dX11_digest_71 ?_
        refine lv_lload_n hx hb dX11_digest_74 rfl (lv_at hl 0 rfl) ?_
        refine lv_lmul hx hb dX11_digest_75 ?_
        refine lv_aload_n hx hb dX11_digest_76 rfl (lv_at hl 2 rfl) ?_
        refine lv_iload_n hx hb dX11_digest_77 rfl (lv_at hl 1 rfl) ?_
        have hPc : va_P D vwCl (wF [gN b0 b2 b1 x0, gR cL b2 x1]) s.heap := hP.sub [0, 1] rfl
        refine c_Ri (va_runV (As := [.int (nI i)]) (rest := [.long ((31 : Int64) * (((31 : Int64) * (((31 : Int64) * zz) + (F11_outdoor x1 (nI i)).toInt64)) + (F11_tariff x1 (nI i)).toInt64))]) ⟨hx, hb, hml, hown, hts⟩ (m11_demand l D cI cL cP b0 b1 b2 x0 x1 (nI i) s.heap) (cwV 1 hts gX11_digest_X11_demand rfl rfl rfl (by decide +kernel) ⟨Nat.le_of_ble_eq_true rfl, Nat.le_of_ble_eq_true rfl⟩) (preR_V (q := (RX11, TX11, 10)) (q0 := 0) hQ hPc rfl rfl) rfl rfl hl.1 rfl (lv_room (Nat.le_of_ble_eq_true rfl)) dX11_digest_78 ⟨Nat.le_of_ble_eq_true rfl, Nat.le_of_ble_eq_true rfl⟩) hS (fun locs hS => ?_)
        refine lv_i2l hx hb dX11_digest_81 rfl ?_
        refine lv_ladd hx hb dX11_digest_82 ?_
        refine lv_lstore_n (lv' := [(1, .long (((31 : Int64) * (((31 : Int64) * (((31 : Int64) * zz) + (F11_outdoor x1 (nI i)).toInt64)) + (F11_tariff x1 (nI i)).toInt64)) + (F11_demand x1 (nI i)).toInt64)), (3, .int (nI i)), (0, .ref b0)]) hx hb dX11_digest_83 rfl hl (by decide) rfl (fun ls hl => ?_)
        refine lv_ldc2 (own := RX11) (index := 247) (v := (31 : Int64)) hx hb hown (hts (.constantLong RX11 247 (31)) (List.mem_of_getElem? (i := 2) rfl)) dX11_digest_84 ?_
        refine lv_lload_n hx hb dX11_digest_87 rfl (lv_at hl 0 rfl) ?_
        refine lv_lmul hx hb dX11_digest_88 ?_
        refine lv_aload_n hx hb dX11_digest_89 rfl (lv_at hl 2 rfl) ?_
        refine lv_iload_n hx hb dX11_digest_90 rfl (lv_at hl 1 rfl) ?_
        have hPc : va_P D vwCl (wF [gN b0 b2 b1 x0, gR cL b2 x1]) s.heap := hP.sub [0, 1] rfl
        refine c_Ri (va_runV (As := [.int (nI i)]) (rest := [.long ((31 : Int64) * (((31 : Int64) * (((31 : Int64) * (((31 : Int64) * zz) + (F11_outdoor x1 (nI i)).toInt64)) + (F11_tariff x1 (nI i)).toInt64)) + (F11_demand x1 (nI i)).toInt64))]) ⟨hx, hb, hml, hown, hts⟩ (m11_target l D cI cL cP b0 b1 b2 x0 x1 (nI i) hc hc1 s.heap) (cwV 1 hts gX11_digest_X11_target rfl rfl rfl (by decide +kernel) ⟨Nat.le_of_ble_eq_true rfl, Nat.le_of_ble_eq_true rfl⟩) (preR_V (q := (RX11, TX11, 10)) (q0 := 0) hQ hPc rfl rfl) rfl rfl hl.1 rfl (lv_room (Nat.le_of_ble_eq_true rfl)) dX11_digest_91 ⟨Nat.le_of_ble_eq_true rfl, Nat.le_of_ble_eq_true rfl⟩) hS (fun locs hS => ?_)
        refine lv_i2l hx hb dX11_digest_94 rfl ?_
        refine lv_ladd hx hb dX11_digest_95 ?_
        refine lv_lstore_n (lv' := [(1, .long (((31 : Int64) * (((31 : Int64) * (((31 : Int64) * (((31 : Int64) * zz) + (F11_outdoor x1 (nI i)).toInt64)) + (F11_tariff x1 (nI i)).toInt64)) + (F11_demand x1 (nI i)).toInt64)) + (F11_target x0 x1 (nI i)).toInt64)), (3, .int (nI i)), (0, .ref b0)]) hx hb dX11_digest_96 rfl hl (by decide) rfl (fun ls hl => ?_)
        refine lv_iinc (v := (nI (i + 1))) (lv' := [(3, .int (nI (i + 1))), (1, .long (((31 : Int64) * (((31 : Int64) * (((31 : Int64) * (((31 : Int64) * zz) + (F11_outdoor x1 (nI i)).toInt64)) + (F11_tariff x1 (nI i)).toInt64)) + (F11_demand x1 (nI i)).toInt64)) + (F11_target x0 x1 (nI i)).toInt64)), (0, .ref b0)]) hx hb dX11_digest_97 hl (k := 1) rfl (nI_add i 1) (by decide) rfl (fun ls hl => ?_)
        refine lv_goto (tgt := 39) hx hb dX11_digest_100 (by decide) ?_
        exact ih (i + 1) (((31 : Int64) * (((31 : Int64) * (((31 : Int64) * (((31 : Int64) * zz) + (F11_outdoor x1 (nI i)).toInt64)) + (F11_tariff x1 (nI i)).toInt64)) + (F11_demand x1 (nI i)).toInt64)) + (F11_target x0 x1 (nI i)).toInt64) (by omega) (by omega) (fun z hz => kk z (hz.trans ((Eq.trans (if_neg c3) (rfl)).symm))) locs hS ls (lv_sub hl [0, 1, 2] rfl)
  refine loop39 25 0 z2.2 (by omega) (by omega) (fun z4 hz4 hi_z4 locs hS ls hl => ?_) locs hS ls (lv_sub hl [0, 1, 2] rfl)
  refine lv_sipush (v := (-300 : Int32)) hx hb dX11_digest_103 (by decide) ?_
  refine lv_istore_n (lv' := [(3, .int (-300 : Int32)), (1, .long z4.2), (0, .ref b0)]) hx hb dX11_digest_106 rfl hl (by decide) rfl (fun ls hl => ?_)
  refine lv_iload_n hx hb dX11_digest_107 rfl (lv_at hl 0 rfl) ?_
  refine lv_sipush (v := (400 : Int32)) hx hb dX11_digest_108 (by decide) ?_
  refine lv_icmp_gt (tgt := 133) hx hb dX11_digest_111 (by decide) (fun c5 => absurd c5 (by decide)) (fun _ => ?_)
  refine lv_ldc2 (own := RX11) (index := 247) (v := (31 : Int64)) hx hb hown (hts (.constantLong RX11 247 (31)) (List.mem_of_getElem? (i := 2) rfl)) dX11_digest_114 ?_
  refine lv_lload_n hx hb dX11_digest_117 rfl (lv_at hl 1 rfl) ?_
  refine lv_lmul hx hb dX11_digest_118 ?_
  refine lv_aload_n hx hb dX11_digest_119 rfl (lv_at hl 2 rfl) ?_
  refine lv_iload_n hx hb dX11_digest_120 rfl (lv_at hl 0 rfl) ?_
  have hPc : va_P D vwCl (wF [gN b0 b2 b1 x0, gR cL b2 x1]) s.heap := hP.sub [0, 1] rfl
  refine c_Ri (va_runV (As := [.int (-300 : Int32)]) (rest := [.long ((31 : Int64) * z4.2)]) ⟨hx, hb, hml, hown, hts⟩ (m11_supply l D cI cL cP b0 b1 b2 x0 x1 (-300 : Int32) hc hc1 s.heap) (cwV 1 hts gX11_digest_X11_supply rfl rfl rfl (by decide +kernel) ⟨Nat.le_of_ble_eq_true rfl, Nat.le_of_ble_eq_true rfl⟩) (preR_V (q := (RX11, TX11, 10)) (q0 := 0) hQ hPc rfl rfl) rfl rfl hl.1 rfl (lv_room (Nat.le_of_ble_eq_true rfl)) dX11_digest_121 ⟨Nat.le_of_ble_eq_true rfl, Nat.le_of_ble_eq_true rfl⟩) hS (fun locs hS => ?_)
  refine lv_i2l hx hb dX11_digest_124 rfl ?_
  refine lv_ladd hx hb dX11_digest_125 ?_
  refine lv_lstore_n (lv' := [(1, .long (((31 : Int64) * z4.2) + (F11_supply x0 x1 (-300 : Int32)).toInt64)), (3, .int (-300 : Int32)), (0, .ref b0)]) hx hb dX11_digest_126 rfl hl (by decide) rfl (fun ls hl => ?_)
  refine lv_iinc (v := (-200 : Int32)) (lv' := [(3, .int (-200 : Int32)), (1, .long (((31 : Int64) * z4.2) + (F11_supply x0 x1 (-300 : Int32)).toInt64)), (0, .ref b0)]) hx hb dX11_digest_127 hl (k := 1) rfl (by decide) (by decide) rfl (fun ls hl => ?_)
  refine lv_goto (tgt := 107) hx hb dX11_digest_130 (by decide) ?_
  refine lv_iload_n hx hb dX11_digest_107 rfl (lv_at hl 0 rfl) ?_
  refine lv_sipush (v := (400 : Int32)) hx hb dX11_digest_108 (by decide) ?_
  refine lv_icmp_gt (tgt := 133) hx hb dX11_digest_111 (by decide) (fun c6 => absurd c6 (by decide)) (fun _ => ?_)
  refine lv_ldc2 (own := RX11) (index := 247) (v := (31 : Int64)) hx hb hown (hts (.constantLong RX11 247 (31)) (List.mem_of_getElem? (i := 2) rfl)) dX11_digest_114 ?_
  refine lv_lload_n hx hb dX11_digest_117 rfl (lv_at hl 1 rfl) ?_
  refine lv_lmul hx hb dX11_digest_118 ?_
  refine lv_aload_n hx hb dX11_digest_119 rfl (lv_at hl 2 rfl) ?_
  refine lv_iload_n hx hb dX11_digest_120 rfl (lv_at hl 0 rfl) ?_
  have hPc : va_P D vwCl (wF [gN b0 b2 b1 x0, gR cL b2 x1]) s.heap := hP.sub [0, 1] rfl
  refine c_Ri (va_runV (As := [.int (-200 : Int32)]) (rest := [.long ((31 : Int64) * (((31 : Int64) * z4.2) + (F11_supply x0 x1 (-300 : Int32)).toInt64))]) ⟨hx, hb, hml, hown, hts⟩ (m11_supply l D cI cL cP b0 b1 b2 x0 x1 (-200 : Int32) hc hc1 s.heap) (cwV 1 hts gX11_digest_X11_supply rfl rfl rfl (by decide +kernel) ⟨Nat.le_of_ble_eq_true rfl, Nat.le_of_ble_eq_true rfl⟩) (preR_V (q := (RX11, TX11, 10)) (q0 := 0) hQ hPc rfl rfl) rfl rfl hl.1 rfl (lv_room (Nat.le_of_ble_eq_true rfl)) dX11_digest_121 ⟨Nat.le_of_ble_eq_true rfl, Nat.le_of_ble_eq_true rfl⟩) hS (fun locs hS => ?_)
  refine lv_i2l hx hb dX11_digest_124 rfl ?_
  refine lv_ladd hx hb dX11_digest_125 ?_
  refine lv_lstore_n (lv' := [(1, .long (((31 : Int64) * (((31 : Int64) * z4.2) + (F11_supply x0 x1 (-300 : Int32)).toInt64)) + (F11_supply x0 x1 (-200 : Int32)).toInt64)), (3, .int (-200 : Int32)), (0, .ref b0)]) hx hb dX11_digest_126 rfl hl (by decide) rfl (fun ls hl => ?_)
  refine lv_iinc (v := (-100 : Int32)) (lv' := [(3, .int (-100 : Int32)), (1, .long (((31 : Int64) * (((31 : Int64) * z4.2) + (F11_supply x0 x1 (-300 : Int32)).toInt64)) + (F11_supply x0 x1 (-200 : Int32)).toInt64)), (0, .ref b0)]) hx hb dX11_digest_127 hl (k := 1) rfl (by decide) (by decide) rfl (fun ls hl => ?_)
  refine lv_goto (tgt := 107) hx hb dX11_digest_130 (by decide) ?_
  refine lv_iload_n hx hb dX11_digest_107 rfl (lv_at hl 0 rfl) ?_
  refine lv_sipush (v := (400 : Int32)) hx hb dX11_digest_108 (by decide) ?_
  refine lv_icmp_gt (tgt := 133) hx hb dX11_digest_111 (by decide) (fun c7 => absurd c7 (by decide)) (fun _ => ?_)
  refine lv_ldc2 (own := RX11) (index := 247) (v := (31 : Int64)) hx hb hown (hts (.constantLong RX11 247 (31)) (List.mem_of_getElem? (i := 2) rfl)) dX11_digest_114 ?_
  refine lv_lload_n hx hb dX11_digest_117 rfl (lv_at hl 1 rfl) ?_
  refine lv_lmul hx hb dX11_digest_118 ?_
  refine lv_aload_n hx hb dX11_digest_119 rfl (lv_at hl 2 rfl) ?_
  refine lv_iload_n hx hb dX11_digest_120 rfl (lv_at hl 0 rfl) ?_
  have hPc : va_P D vwCl (wF [gN b0 b2 b1 x0, gR cL b2 x1]) s.heap := hP.sub [0, 1] rfl
  refine c_Ri (va_runV (As := [.int (-100 : Int32)]) (rest := [.long ((31 : Int64) * (((31 : Int64) * (((31 : Int64) * z4.2) + (F11_supply x0 x1 (-300 : Int32)).toInt64)) + (F11_supply x0 x1 (-200 : Int32)).toInt64))]) ⟨hx, hb, hml, hown, hts⟩ (m11_supply l D cI cL cP b0 b1 b2 x0 x1 (-100 : Int32) hc hc1 s.heap) (cwV 1 hts gX11_digest_X11_supply rfl rfl rfl (by decide +kernel) ⟨Nat.le_of_ble_eq_true rfl, Nat.le_of_ble_eq_true rfl⟩) (preR_V (q := (RX11, TX11, 10)) (q0 := 0) hQ hPc rfl rfl) rfl rfl hl.1 rfl (lv_room (Nat.le_of_ble_eq_true rfl)) dX11_digest_121 ⟨Nat.le_of_ble_eq_true rfl, Nat.le_of_ble_eq_true rfl⟩) hS (fun locs hS => ?_)
  refine lv_i2l hx hb dX11_digest_124 rfl ?_
  refine lv_ladd hx hb dX11_digest_125 ?_
  refine lv_lstore_n (lv' := [(1, .long (((31 : Int64) * (((31 : Int64) * (((31 : Int64) * z4.2) + (F11_supply x0 x1 (-300 : Int32)).toInt64)) + (F11_supply x0 x1 (-200 : Int32)).toInt64)) + (F11_supply x0 x1 (-100 : Int32)).toInt64)), (3, .int (-100 : Int32)), (0, .ref b0)]) hx hb dX11_digest_126 rfl hl (by decide) rfl (fun ls hl => ?_)
  refine lv_iinc (v := (0 : Int32)) (lv' := [(3, .int (0 : Int32)), (1, .long (((31 : Int64) * (((31 : Int64) * (((31 : Int64) * z4.2) + (F11_supply x0 x1 (-300 : Int32)).toInt64)) + (F11_supply x0 x1 (-200 : Int32)).toInt64)) + (F11_supply x0 x1 (-100 : Int32)).toInt64)), (0, .ref b0)]) hx hb dX11_digest_127 hl (k := 1) rfl (by decide) (by decide) rfl (fun ls hl => ?_)
  refine lv_goto (tgt := 107) hx hb dX11_digest_130 (by decide) ?_
  refine lv_iload_n hx hb dX11_digest_107 rfl (lv_at hl 0 rfl) ?_
  refine lv_sipush (v := (400 : Int32)) hx hb dX11_digest_108 (by decide) ?_
  refine lv_icmp_gt (tgt := 133) hx hb dX11_digest_111 (by decide) (fun c8 => absurd c8 (by decide)) (fun _ => ?_)
  refine lv_ldc2 (own := RX11) (index := 247) (v := (31 : Int64)) hx hb hown (hts (.constantLong RX11 247 (31)) (List.mem_of_getElem? (i := 2) rfl)) dX11_digest_114 ?_
  refine lv_lload_n hx hb dX11_digest_117 rfl (lv_at hl 1 rfl) ?_
  refine lv_lmul hx hb dX11_digest_118 ?_
  refine lv_aload_n hx hb dX11_digest_119 rfl (lv_at hl 2 rfl) ?_
  refine lv_iload_n hx hb dX11_digest_120 rfl (lv_at hl 0 rfl) ?_
  have hPc : va_P D vwCl (wF [gN b0 b2 b1 x0, gR cL b2 x1]) s.heap := hP.sub [0, 1] rfl
  refine c_Ri (va_runV (As := [.int (0 : Int32)]) (rest := [.long ((31 : Int64) * (((31 : Int64) * (((31 : Int64) * (((31 : Int64) * z4.2) + (F11_supply x0 x1 (-300 : Int32)).toInt64)) + (F11_supply x0 x1 (-200 : Int32)).toInt64)) + (F11_supply x0 x1 (-100 : Int32)).toInt64))]) ⟨hx, hb, hml, hown, hts⟩ (m11_supply l D cI cL cP b0 b1 b2 x0 x1 (0 : Int32) hc hc1 s.heap) (cwV 1 hts gX11_digest_X11_supply rfl rfl rfl (by decide +kernel) ⟨Nat.le_of_ble_eq_true rfl, Nat.le_of_ble_eq_true rfl⟩) (preR_V (q := (RX11, TX11, 10)) (q0 := 0) hQ hPc rfl rfl) rfl rfl hl.1 rfl (lv_room (Nat.le_of_ble_eq_true rfl)) dX11_digest_121 ⟨Nat.le_of_ble_eq_true rfl, Nat.le_of_ble_eq_true rfl⟩) hS (fun locs hS => ?_)
  refine lv_i2l hx hb dX11_digest_124 rfl ?_
  refine lv_ladd hx hb dX11_digest_125 ?_
  refine lv_lstore_n (lv' := [(1, .long (((31 : Int64) * (((31 : Int64) * (((31 : Int64) * (((31 : Int64) * z4.2) + (F11_supply x0 x1 (-300 : Int32)).toInt64)) + (F11_supply x0 x1 (-200 : Int32)).toInt64)) + (F11_supply x0 x1 (-100 : Int32)).toInt64)) + (F11_supply x0 x1 (0 : Int32)).toInt64)), (3, .int (0 : Int32)), (0, .ref b0)]) hx hb dX11_digest_126 rfl hl (by decide) rfl (fun ls hl => ?_)
  refine lv_iinc (v := (100 : Int32)) (lv' := [(3, .int (100 : Int32)), (1, .long (((31 : Int64) * (((31 : Int64) * (((31 : Int64) * (((31 : Int64) * z4.2) + (F11_supply x0 x1 (-300 : Int32)).toInt64)) + (F11_supply x0 x1 (-200 : Int32)).toInt64)) + (F11_supply x0 x1 (-100 : Int32)).toInt64)) + (F11_supply x0 x1 (0 : Int32)).toInt64)), (0, .ref b0)]) hx hb dX11_digest_127 hl (k := 1) rfl (by decide) (by decide) rfl (fun ls hl => ?_)
  refine lv_goto (tgt := 107) hx hb dX11_digest_130 (by decide) ?_
  refine lv_iload_n hx hb dX11_digest_107 rfl (lv_at hl 0 rfl) ?_
  refine lv_sipush (v := (400 : Int32)) hx hb dX11_digest_108 (by decide) ?_
  refine lv_icmp_gt (tgt := 133) hx hb dX11_digest_111 (by decide) (fun c9 => absurd c9 (by decide)) (fun _ => ?_)
  refine lv_ldc2 (own := RX11) (index := 247) (v := (31 : Int64)) hx hb hown (hts (.constantLong RX11 247 (31)) (List.mem_of_getElem? (i := 2) rfl)) dX11_digest_114 ?_
  refine lv_lload_n hx hb dX11_digest_117 rfl (lv_at hl 1 rfl) ?_
  refine lv_lmul hx hb dX11_digest_118 ?_
  refine lv_aload_n hx hb dX11_digest_119 rfl (lv_at hl 2 rfl) ?_
  refine lv_iload_n hx hb dX11_digest_120 rfl (lv_at hl 0 rfl) ?_
  have hPc : va_P D vwCl (wF [gN b0 b2 b1 x0, gR cL b2 x1]) s.heap := hP.sub [0, 1] rfl
  refine c_Ri (va_runV (As := [.int (100 : Int32)]) (rest := [.long ((31 : Int64) * (((31 : Int64) * (((31 : Int64) * (((31 : Int64) * (((31 : Int64) * z4.2) + (F11_supply x0 x1 (-300 : Int32)).toInt64)) + (F11_supply x0 x1 (-200 : Int32)).toInt64)) + (F11_supply x0 x1 (-100 : Int32)).toInt64)) + (F11_supply x0 x1 (0 : Int32)).toInt64))]) ⟨hx, hb, hml, hown, hts⟩ (m11_supply l D cI cL cP b0 b1 b2 x0 x1 (100 : Int32) hc hc1 s.heap) (cwV 1 hts gX11_digest_X11_supply rfl rfl rfl (by decide +kernel) ⟨Nat.le_of_ble_eq_true rfl, Nat.le_of_ble_eq_true rfl⟩) (preR_V (q := (RX11, TX11, 10)) (q0 := 0) hQ hPc rfl rfl) rfl rfl hl.1 rfl (lv_room (Nat.le_of_ble_eq_true rfl)) dX11_digest_121 ⟨Nat.le_of_ble_eq_true rfl, Nat.le_of_ble_eq_true rfl⟩) hS (fun locs hS => ?_)
  refine lv_i2l hx hb dX11_digest_124 rfl ?_
  refine lv_ladd hx hb dX11_digest_125 ?_
  refine lv_lstore_n (lv' := [(1, .long (((31 : Int64) * (((31 : Int64) * (((31 : Int64) * (((31 : Int64) * (((31 : Int64) * z4.2) + (F11_supply x0 x1 (-300 : Int32)).toInt64)) + (F11_supply x0 x1 (-200 : Int32)).toInt64)) + (F11_supply x0 x1 (-100 : Int32)).toInt64)) + (F11_supply x0 x1 (0 : Int32)).toInt64)) + (F11_supply x0 x1 (100 : Int32)).toInt64)), (3, .int (100 : Int32)), (0, .ref b0)]) hx hb dX11_digest_126 rfl hl (by decide) rfl (fun ls hl => ?_)
  refine lv_iinc (v := (200 : Int32)) (lv' := [(3, .int (200 : Int32)), (1, .long (((31 : Int64) * (((31 : Int64) * (((31 : Int64) * (((31 : Int64) * (((31 : Int64) * z4.2) + (F11_supply x0 x1 (-300 : Int32)).toInt64)) + (F11_supply x0 x1 (-200 : Int32)).toInt64)) + (F11_supply x0 x1 (-100 : Int32)).toInt64)) + (F11_supply x0 x1 (0 : Int32)).toInt64)) + (F11_supply x0 x1 (100 : Int32)).toInt64)), (0, .ref b0)]) hx hb dX11_digest_127 hl (k := 1) rfl (by decide) (by decide) rfl (fun ls hl => ?_)
  refine lv_goto (tgt := 107) hx hb dX11_digest_130 (by decide) ?_
  refine lv_iload_n hx hb dX11_digest_107 rfl (lv_at hl 0 rfl) ?_
  refine lv_sipush (v := (400 : Int32)) hx hb dX11_digest_108 (by decide) ?_
  refine lv_icmp_gt (tgt := 133) hx hb dX11_digest_111 (by decide) (fun c10 => absurd c10 (by decide)) (fun _ => ?_)
  refine lv_ldc2 (own := RX11) (index := 247) (v := (31 : Int64)) hx hb hown (hts (.constantLong RX11 247 (31)) (List.mem_of_getElem? (i := 2) rfl)) dX11_digest_114 ?_
  refine lv_lload_n hx hb dX11_digest_117 rfl (lv_at hl 1 rfl) ?_
  refine lv_lmul hx hb dX11_digest_118 ?_
  refine lv_aload_n hx hb dX11_digest_119 rfl (lv_at hl 2 rfl) ?_
  refine lv_iload_n hx hb dX11_digest_120 rfl (lv_at hl 0 rfl) ?_
  have hPc : va_P D vwCl (wF [gN b0 b2 b1 x0, gR cL b2 x1]) s.heap := hP.sub [0, 1] rfl
  refine c_Ri (va_runV (As := [.int (200 : Int32)]) (rest := [.long ((31 : Int64) * (((31 : Int64) * (((31 : Int64) * (((31 : Int64) * (((31 : Int64) * (((31 : Int64) * z4.2) + (F11_supply x0 x1 (-300 : Int32)).toInt64)) + (F11_supply x0 x1 (-200 : Int32)).toInt64)) + (F11_supply x0 x1 (-100 : Int32)).toInt64)) + (F11_supply x0 x1 (0 : Int32)).toInt64)) + (F11_supply x0 x1 (100 : Int32)).toInt64))]) ⟨hx, hb, hml, hown, hts⟩ (m11_supply l D cI cL cP b0 b1 b2 x0 x1 (200 : Int32) hc hc1 s.heap) (cwV 1 hts gX11_digest_X11_supply rfl rfl rfl (by decide +kernel) ⟨Nat.le_of_ble_eq_true rfl, Nat.le_of_ble_eq_true rfl⟩) (preR_V (q := (RX11, TX11, 10)) (q0 := 0) hQ hPc rfl rfl) rfl rfl hl.1 rfl (lv_room (Nat.le_of_ble_eq_true rfl)) dX11_digest_121 ⟨Nat.le_of_ble_eq_true rfl, Nat.le_of_ble_eq_true rfl⟩) hS (fun locs hS => ?_)
  refine lv_i2l hx hb dX11_digest_124 rfl ?_
  refine lv_ladd hx hb dX11_digest_125 ?_
  refine lv_lstore_n (lv' := [(1, .long (((31 : Int64) * (((31 : Int64) * (((31 : Int64) * (((31 : Int64) * (((31 : Int64) * (((31 : Int64) * z4.2) + (F11_supply x0 x1 (-300 : Int32)).toInt64)) + (F11_supply x0 x1 (-200 : Int32)).toInt64)) + (F11_supply x0 x1 (-100 : Int32)).toInt64)) + (F11_supply x0 x1 (0 : Int32)).toInt64)) + (F11_supply x0 x1 (100 : Int32)).toInt64)) + (F11_supply x0 x1 (200 : Int32)).toInt64)), (3, .int (200 : Int32)), (0, .ref b0)]) hx hb dX11_digest_126 rfl hl (by decide) rfl (fun ls hl => ?_)
  refine lv_iinc (v := (300 : Int32)) (lv' := [(3, .int (300 : Int32)), (1, .long (((31 : Int64) * (((31 : Int64) * (((31 : Int64) * (((31 : Int64) * (((31 : Int64) * (((31 : Int64) * z4.2) + (F11_supply x0 x1 (-300 : Int32)).toInt64)) + (F11_supply x0 x1 (-200 : Int32)).toInt64)) + (F11_supply x0 x1 (-100 : Int32)).toInt64)) + (F11_supply x0 x1 (0 : Int32)).toInt64)) + (F11_supply x0 x1 (100 : Int32)).toInt64)) + (F11_supply x0 x1 (200 : Int32)).toInt64)), (0, .ref b0)]) hx hb dX11_digest_127 hl (k := 1) rfl (by decide) (by decide) rfl (fun ls hl => ?_)
  refine lv_goto (tgt := 107) hx hb dX11_digest_130 (by decide) ?_
  refine lv_iload_n hx hb dX11_digest_107 rfl (lv_at hl 0 rfl) ?_
  refine lv_sipush (v := (400 : Int32)) hx hb dX11_digest_108 (by decide) ?_
  refine lv_icmp_gt (tgt := 133) hx hb dX11_digest_111 (by decide) (fun c11 => absurd c11 (by decide)) (fun _ => ?_)
  refine lv_ldc2 (own := RX11) (index := 247) (v := (31 : Int64)) hx hb hown (hts (.constantLong RX11 247 (31)) (List.mem_of_getElem? (i := 2) rfl)) dX11_digest_114 ?_
  refine lv_lload_n hx hb dX11_digest_117 rfl (lv_at hl 1 rfl) ?_
  refine lv_lmul hx hb dX11_digest_118 ?_
  refine lv_aload_n hx hb dX11_digest_119 rfl (lv_at hl 2 rfl) ?_
  refine lv_iload_n hx hb dX11_digest_120 rfl (lv_at hl 0 rfl) ?_
  have hPc : va_P D vwCl (wF [gN b0 b2 b1 x0, gR cL b2 x1]) s.heap := hP.sub [0, 1] rfl
  refine c_Ri (va_runV (As := [.int (300 : Int32)]) (rest := [.long ((31 : Int64) * (((31 : Int64) * (((31 : Int64) * (((31 : Int64) * (((31 : Int64) * (((31 : Int64) * (((31 : Int64) * z4.2) + (F11_supply x0 x1 (-300 : Int32)).toInt64)) + (F11_supply x0 x1 (-200 : Int32)).toInt64)) + (F11_supply x0 x1 (-100 : Int32)).toInt64)) + (F11_supply x0 x1 (0 : Int32)).toInt64)) + (F11_supply x0 x1 (100 : Int32)).toInt64)) + (F11_supply x0 x1 (200 : Int32)).toInt64))]) ⟨hx, hb, hml, hown, hts⟩ (m11_supply l D cI cL cP b0 b1 b2 x0 x1 (300 : Int32) hc hc1 s.heap) (cwV 1 hts gX11_digest_X11_supply rfl rfl rfl (by decide +kernel) ⟨Nat.le_of_ble_eq_true rfl, Nat.le_of_ble_eq_true rfl⟩) (preR_V (q := (RX11, TX11, 10)) (q0 := 0) hQ hPc rfl rfl) rfl rfl hl.1 rfl (lv_room (Nat.le_of_ble_eq_true rfl)) dX11_digest_121 ⟨Nat.le_of_ble_eq_true rfl, Nat.le_of_ble_eq_true rfl⟩) hS (fun locs hS => ?_)
  refine lv_i2l hx hb dX11_digest_124 rfl ?_
  refine lv_ladd hx hb dX11_digest_125 ?_
  refine lv_lstore_n (lv' := [(1, .long (((31 : Int64) * (((31 : Int64) * (((31 : Int64) * (((31 : Int64) * (((31 : Int64) * (((31 : Int64) * (((31 : Int64) * z4.2) + (F11_supply x0 x1 (-300 : Int32)).toInt64)) + (F11_supply x0 x1 (-200 : Int32)).toInt64)) + (F11_supply x0 x1 (-100 : Int32)).toInt64)) + (F11_supply x0 x1 (0 : Int32)).toInt64)) + (F11_supply x0 x1 (100 : Int32)).toInt64)) + (F11_supply x0 x1 (200 : Int32)).toInt64)) + (F11_supply x0 x1 (300 : Int32)).toInt64)), (3, .int (300 : Int32)), (0, .ref b0)]) hx hb dX11_digest_126 rfl hl (by decide) rfl (fun ls hl => ?_)
  refine lv_iinc (v := (400 : Int32)) (lv' := [(3, .int (400 : Int32)), (1, .long (((31 : Int64) * (((31 : Int64) * (((31 : Int64) * (((31 : Int64) * (((31 : Int64) * (((31 : Int64) * (((31 : Int64) * z4.2) + (F11_supply x0 x1 (-300 : Int32)).toInt64)) + (F11_supply x0 x1 (-200 : Int32)).toInt64)) + (F11_supply x0 x1 (-100 : Int32)).toInt64)) + (F11_supply x0 x1 (0 : Int32)).toInt64)) + (F11_supply x0 x1 (100 : Int32)).toInt64)) + (F11_supply x0 x1 (200 : Int32)).toInt64)) + (F11_supply x0 x1 (300 : Int32)).toInt64)), (0, .ref b0)]) hx hb dX11_digest_127 hl (k := 1) rfl (by decide) (by decide) rfl (fun ls hl => ?_)
  refine lv_goto (tgt := 107) hx hb dX11_digest_130 (by decide) ?_
  refine lv_iload_n hx hb dX11_digest_107 rfl (lv_at hl 0 rfl) ?_
  refine lv_sipush (v := (400 : Int32)) hx hb dX11_digest_108 (by decide) ?_
  refine lv_icmp_gt (tgt := 133) hx hb dX11_digest_111 (by decide) (fun c12 => absurd c12 (by decide)) (fun _ => ?_)
  refine lv_ldc2 (own := RX11) (index := 247) (v := (31 : Int64)) hx hb hown (hts (.constantLong RX11 247 (31)) (List.mem_of_getElem? (i := 2) rfl)) dX11_digest_114 ?_
  refine lv_lload_n hx hb dX11_digest_117 rfl (lv_at hl 1 rfl) ?_
  refine lv_lmul hx hb dX11_digest_118 ?_
  refine lv_aload_n hx hb dX11_digest_119 rfl (lv_at hl 2 rfl) ?_
  refine lv_iload_n hx hb dX11_digest_120 rfl (lv_at hl 0 rfl) ?_
  have hPc : va_P D vwCl (wF [gN b0 b2 b1 x0, gR cL b2 x1]) s.heap := hP.sub [0, 1] rfl
  refine c_Ri (va_runV (As := [.int (400 : Int32)]) (rest := [.long ((31 : Int64) * (((31 : Int64) * (((31 : Int64) * (((31 : Int64) * (((31 : Int64) * (((31 : Int64) * (((31 : Int64) * (((31 : Int64) * z4.2) + (F11_supply x0 x1 (-300 : Int32)).toInt64)) + (F11_supply x0 x1 (-200 : Int32)).toInt64)) + (F11_supply x0 x1 (-100 : Int32)).toInt64)) + (F11_supply x0 x1 (0 : Int32)).toInt64)) + (F11_supply x0 x1 (100 : Int32)).toInt64)) + (F11_supply x0 x1 (200 : Int32)).toInt64)) + (F11_supply x0 x1 (300 : Int32)).toInt64))]) ⟨hx, hb, hml, hown, hts⟩ (m11_supply l D cI cL cP b0 b1 b2 x0 x1 (400 : Int32) hc hc1 s.heap) (cwV 1 hts gX11_digest_X11_supply rfl rfl rfl (by decide +kernel) ⟨Nat.le_of_ble_eq_true rfl, Nat.le_of_ble_eq_true rfl⟩) (preR_V (q := (RX11, TX11, 10)) (q0 := 0) hQ hPc rfl rfl) rfl rfl hl.1 rfl (lv_room (Nat.le_of_ble_eq_true rfl)) dX11_digest_121 ⟨Nat.le_of_ble_eq_true rfl, Nat.le_of_ble_eq_true rfl⟩) hS (fun locs hS => ?_)
  refine lv_i2l hx hb dX11_digest_124 rfl ?_
  refine lv_ladd hx hb dX11_digest_125 ?_
  refine lv_lstore_n (lv' := [(1, .long (((31 : Int64) * (((31 : Int64) * (((31 : Int64) * (((31 : Int64) * (((31 : Int64) * (((31 : Int64) * (((31 : Int64) * (((31 : Int64) * z4.2) + (F11_supply x0 x1 (-300 : Int32)).toInt64)) + (F11_supply x0 x1 (-200 : Int32)).toInt64)) + (F11_supply x0 x1 (-100 : Int32)).toInt64)) + (F11_supply x0 x1 (0 : Int32)).toInt64)) + (F11_supply x0 x1 (100 : Int32)).toInt64)) + (F11_supply x0 x1 (200 : Int32)).toInt64)) + (F11_supply x0 x1 (300 : Int32)).toInt64)) + (F11_supply x0 x1 (400 : Int32)).toInt64)), (3, .int (400 : Int32)), (0, .ref b0)]) hx hb dX11_digest_126 rfl hl (by decide) rfl (fun ls hl => ?_)
  refine lv_iinc (v := (500 : Int32)) (lv' := [(3, .int (500 : Int32)), (1, .long (((31 : Int64) * (((31 : Int64) * (((31 : Int64) * (((31 : Int64) * (((31 : Int64) * (((31 : Int64) * (((31 : Int64) * (((31 : Int64) * z4.2) + (F11_supply x0 x1 (-300 : Int32)).toInt64)) + (F11_supply x0 x1 (-200 : Int32)).toInt64)) + (F11_supply x0 x1 (-100 : Int32)).toInt64)) + (F11_supply x0 x1 (0 : Int32)).toInt64)) + (F11_supply x0 x1 (100 : Int32)).toInt64)) + (F11_supply x0 x1 (200 : Int32)).toInt64)) + (F11_supply x0 x1 (300 : Int32)).toInt64)) + (F11_supply x0 x1 (400 : Int32)).toInt64)), (0, .ref b0)]) hx hb dX11_digest_127 hl (k := 1) rfl (by decide) (by decide) rfl (fun ls hl => ?_)
  refine lv_goto (tgt := 107) hx hb dX11_digest_130 (by decide) ?_
  refine lv_iload_n hx hb dX11_digest_107 rfl (lv_at hl 0 rfl) ?_
  refine lv_sipush (v := (400 : Int32)) hx hb dX11_digest_108 (by decide) ?_
  refine lv_icmp_gt (tgt := 133) hx hb dX11_digest_111 (by decide) (fun _ => ?_) (fun c13 => absurd c13 (by decide))
  refine lv_iconst (v := (0 : Int32)) hx hb dX11_digest_133 (by decide) ?_
  refine lv_istore_n (lv' := [(3, .int (0 : Int32)), (1, .long (((31 : Int64) * (((31 : Int64) * (((31 : Int64) * (((31 : Int64) * (((31 : Int64) * (((31 : Int64) * (((31 : Int64) * (((31 : Int64) * z4.2) + (F11_supply x0 x1 (-300 : Int32)).toInt64)) + (F11_supply x0 x1 (-200 : Int32)).toInt64)) + (F11_supply x0 x1 (-100 : Int32)).toInt64)) + (F11_supply x0 x1 (0 : Int32)).toInt64)) + (F11_supply x0 x1 (100 : Int32)).toInt64)) + (F11_supply x0 x1 (200 : Int32)).toInt64)) + (F11_supply x0 x1 (300 : Int32)).toInt64)) + (F11_supply x0 x1 (400 : Int32)).toInt64)), (0, .ref b0)]) hx hb dX11_digest_134 rfl hl (by decide) rfl (fun ls hl => ?_)
  have loop135 : ∀ (fu : Nat) (i : Nat) (zz : Int64) (hi : i ≤ 4) (hm : 4 - i < fu) (kk : ∀ z : Nat × Int64, z = L11_digest_135 x0 x1 z2 z4 fu i zz → ((z.1) ≤ 4) → ∀ (locs : List Loc) (_ : va_S nF s.heap s.heap locs) (ls : Array Slot) (_ : lv_has ls 4 [(3, .int (nI z.1)), (1, .long z.2), (0, .ref b0)]), W p l e (headSpec wsX11_digest ({ frames := 4, cells := 0, slots := 0, locals := 99 })).room s m #[.ref b0] below meth c s.heap locs 0 0 (MQ below (va_Ql (fun (r : Int64) (_ : Unit) => r = F11_digest x0 x1) (qE s.heap) nF) #[.ref b0] s 0 0 nF) (F0 m 159 ls [])), ∀ (locs : List Loc) (_ : va_S nF s.heap s.heap locs) (ls : Array Slot) (_ : lv_has ls 4 [(3, .int (nI i)), (1, .long zz), (0, .ref b0)]), W p l e (headSpec wsX11_digest ({ frames := 4, cells := 0, slots := 0, locals := 99 })).room s m #[.ref b0] below meth c s.heap locs 0 0 (MQ below (va_Ql (fun (r : Int64) (_ : Unit) => r = F11_digest x0 x1) (qE s.heap) nF) #[.ref b0] s 0 0 nF) (F0 m 135 ls []) := by
    intro fu
    induction fu with
    | zero => intro i zz hi hm; exact absurd hm (by omega)
    | succ fu ih =>
      intro i zz hi hm kk locs hS ls hl
      refine lv_iload_n hx hb dX11_digest_135 rfl (lv_at hl 0 rfl) ?_
      refine lv_iconst (v := (4 : Int32)) hx hb dX11_digest_136 (by decide) ?_
      refine lv_icmp_ge (tgt := 159) hx hb dX11_digest_137 (by decide) (fun c14 => ?_) (fun c14 => ?_)
      · have c14 : 4 ≤ i := (nI_leI (a := 4) (b := i) (by omega) (by omega)).mp c14
        exact kk (i, zz) ((Eq.trans (if_pos c14) (rfl)).symm) hi locs hS ls (lv_sub hl [0, 1, 2] rfl)
      · have c14 : ¬ (4 ≤ i) := fun h9 => c14 ((nI_leI (a := 4) (b := i) (by omega) (by omega)).mpr h9)
        refine lv_ldc2 (own := RX11) (index := 247) (v := (31 : Int64)) hx hb hown (hts (.constantLong RX11 247 (31)) (List.mem_of_getElem? (i := 2) rfl)) dX11_digest_140 ?_
        refine lv_lload_n hx hb dX11_digest_143 rfl (lv_at hl 1 rfl) ?_
        refine lv_lmul hx hb dX11_digest_144 ?_
        refine lv_aload_n hx hb dX11_digest_145 rfl (lv_at hl 2 rfl) ?_
        refine lv_iload_n hx hb dX11_digest_146 rfl (lv_at hl 0 rfl) ?_
        have hPc : va_P D vwCl (wF [gN b0 b2 b1 x0, gR cL b2 x1]) s.heap := hP.sub [0, 1] rfl
        refine c_Ri (va_runV (As := [.int (nI i)]) (rest := [.long ((31 : Int64) * zz)]) ⟨hx, hb, hml, hown, hts⟩ (m11_temperature l D cI cL cP b0 b1 b2 x0 x1 (nI i) h81 s.heap) (cwV 1 hts gX11_digest_X11_temperature rfl rfl rfl (by decide +kernel) ⟨Nat.le_of_ble_eq_true rfl, Nat.le_of_ble_eq_true rfl⟩) (preR_V (q := (RX11, TX11, 10)) (q0 := 0) hQ hPc rfl rfl) rfl rfl hl.1 rfl (lv_room (Nat.le_of_ble_eq_true rfl)) dX11_digest_147 ⟨Nat.le_of_ble_eq_true rfl, Nat.le_of_ble_eq_true rfl⟩) hS (fun locs hS => ?_)
        refine lv_i2l hx hb dX11_digest_150 rfl ?_
        refine lv_ladd hx hb dX11_digest_151 ?_
        refine lv_lstore_n (lv' := [(1, .long (((31 : Int64) * zz) + (F11_temperature x1 (nI i)).toInt64)), (3, .int (nI i)), (0, .ref b0)]) hx hb dX11_digest_152 rfl hl (by decide) rfl (fun ls hl => ?_)
        refine lv_iinc (v := (nI (i + 1))) (lv' := [(3, .int (nI (i + 1))), (1, .long (((31 : Int64) * zz) + (F11_temperature x1 (nI i)).toInt64)), (0, .ref b0)]) hx hb dX11_digest_153 hl (k := 1) rfl (nI_add i 1) (by decide) rfl (fun ls hl => ?_)
        refine lv_goto (tgt := 135) hx hb dX11_digest_156 (by decide) ?_
        exact ih (i + 1) (((31 : Int64) * zz) + (F11_temperature x1 (nI i)).toInt64) (by omega) (by omega) (fun z hz => kk z (hz.trans ((Eq.trans (if_neg c14) (rfl)).symm))) locs hS ls (lv_sub hl [0, 1, 2] rfl)
  refine loop135 5 0 (((31 : Int64) * (((31 : Int64) * (((31 : Int64) * (((31 : Int64) * (((31 : Int64) * (((31 : Int64) * (((31 : Int64) * (((31 : Int64) * z4.2) + (F11_supply x0 x1 (-300 : Int32)).toInt64)) + (F11_supply x0 x1 (-200 : Int32)).toInt64)) + (F11_supply x0 x1 (-100 : Int32)).toInt64)) + (F11_supply x0 x1 (0 : Int32)).toInt64)) + (F11_supply x0 x1 (100 : Int32)).toInt64)) + (F11_supply x0 x1 (200 : Int32)).toInt64)) + (F11_supply x0 x1 (300 : Int32)).toInt64)) + (F11_supply x0 x1 (400 : Int32)).toInt64) (by omega) (by omega) (fun z15 hz15 hi_z15 locs hS ls hl => ?_) locs hS ls (lv_sub hl [0, 1, 2] rfl)
  refine lv_ldc2 (own := RX11) (index := 247) (v := (31 : Int64)) hx hb hown (hts (.constantLong RX11 247 (31)) (List.mem_of_getElem? (i := 2) rfl)) dX11_digest_159 ?_
  refine lv_lload_n hx hb dX11_digest_162 rfl (lv_at hl 1 rfl) ?_
  refine lv_lmul hx hb dX11_digest_163 ?_
  refine lv_aload_n hx hb dX11_digest_164 rfl (lv_at hl 2 rfl) ?_
  have hPc : va_P D vwCl (wF [gN b0 b2 b1 x0, gR cL b2 x1]) s.heap := hP.sub [0, 1] rfl
  refine c_Rl (va_runV (As := []) (rest := [.long ((31 : Int64) * z15.2)]) ⟨hx, hb, hml, hown, hts⟩ (m11_stored l D cI cL cP b0 b1 b2 x0 x1 s.heap) (cwV 0 hts gX11_digest_X11_stored rfl rfl rfl (by decide +kernel) ⟨Nat.le_of_ble_eq_true rfl, Nat.le_of_ble_eq_true rfl⟩) (preR_V (q := (RX11, TX11, 10)) (q0 := 0) hQ hPc rfl rfl) rfl rfl hl.1 rfl (lv_room (Nat.le_of_ble_eq_true rfl)) dX11_digest_165 ⟨Nat.le_of_ble_eq_true rfl, Nat.le_of_ble_eq_true rfl⟩) hS (fun locs hS => ?_)
  refine lv_ladd hx hb dX11_digest_168 ?_
  refine lv_lstore_n (lv' := [(1, .long (((31 : Int64) * z15.2) + (F11_stored x1))), (3, .int (nI z15.1)), (0, .ref b0)]) hx hb dX11_digest_169 rfl hl (by decide) rfl (fun ls hl => ?_)
  refine lv_ldc2 (own := RX11) (index := 247) (v := (31 : Int64)) hx hb hown (hts (.constantLong RX11 247 (31)) (List.mem_of_getElem? (i := 2) rfl)) dX11_digest_170 ?_
  refine lv_lload_n hx hb dX11_digest_173 rfl (lv_at hl 0 rfl) ?_
  refine lv_lmul hx hb dX11_digest_174 ?_
  refine lv_aload_n hx hb dX11_digest_175 rfl (lv_at hl 2 rfl) ?_
  have hPc : va_P D vwCl (wF [gN b0 b2 b1 x0, gR cL b2 x1]) s.heap := hP.sub [0, 1] rfl
  refine c_Ri (va_runV (As := []) (rest := [.long ((31 : Int64) * (((31 : Int64) * z15.2) + (F11_stored x1)))]) ⟨hx, hb, hml, hown, hts⟩ (m11_pump l D cI cL cP b0 b1 b2 x0 x1 s.heap) (cwV 0 hts gX11_digest_X11_pump rfl rfl rfl (by decide +kernel) ⟨Nat.le_of_ble_eq_true rfl, Nat.le_of_ble_eq_true rfl⟩) (preR_V (q := (RX11, TX11, 10)) (q0 := 0) hQ hPc rfl rfl) rfl rfl hl.1 rfl (lv_room (Nat.le_of_ble_eq_true rfl)) dX11_digest_176 ⟨Nat.le_of_ble_eq_true rfl, Nat.le_of_ble_eq_true rfl⟩) hS (fun locs hS => ?_)
  refine lv_i2l hx hb dX11_digest_179 rfl ?_
  refine lv_ladd hx hb dX11_digest_180 ?_
  refine lv_lstore_n (lv' := [(1, .long (((31 : Int64) * (((31 : Int64) * z15.2) + (F11_stored x1))) + (F11_pump x1).toInt64)), (3, .int (nI z15.1)), (0, .ref b0)]) hx hb dX11_digest_181 rfl hl (by decide) rfl (fun ls hl => ?_)
  refine lv_ldc2 (own := RX11) (index := 247) (v := (31 : Int64)) hx hb hown (hts (.constantLong RX11 247 (31)) (List.mem_of_getElem? (i := 2) rfl)) dX11_digest_182 ?_
  refine lv_lload_n hx hb dX11_digest_185 rfl (lv_at hl 0 rfl) ?_
  refine lv_lmul hx hb dX11_digest_186 ?_
  refine lv_aload_n hx hb dX11_digest_187 rfl (lv_at hl 2 rfl) ?_
  have hPc : va_P D vwCl (wF [gN b0 b2 b1 x0, gR cL b2 x1]) s.heap := hP.sub [0, 1] rfl
  refine c_Ri (va_runV (As := []) (rest := [.long ((31 : Int64) * (((31 : Int64) * (((31 : Int64) * z15.2) + (F11_stored x1))) + (F11_pump x1).toInt64))]) ⟨hx, hb, hml, hown, hts⟩ (m11_reason l D cI cL cP b0 b1 b2 x0 x1 s.heap) (cwV 0 hts gX11_digest_X11_reason rfl rfl rfl (by decide +kernel) ⟨Nat.le_of_ble_eq_true rfl, Nat.le_of_ble_eq_true rfl⟩) (preR_V (q := (RX11, TX11, 10)) (q0 := 0) hQ hPc rfl rfl) rfl rfl hl.1 rfl (lv_room (Nat.le_of_ble_eq_true rfl)) dX11_digest_188 ⟨Nat.le_of_ble_eq_true rfl, Nat.le_of_ble_eq_true rfl⟩) hS (fun locs hS => ?_)
  refine lv_i2l hx hb dX11_digest_191 rfl ?_
  refine lv_ladd hx hb dX11_digest_192 ?_
  refine lv_lstore_n (lv' := [(1, .long (((31 : Int64) * (((31 : Int64) * (((31 : Int64) * z15.2) + (F11_stored x1))) + (F11_pump x1).toInt64)) + (F11_reason x1).toInt64)), (3, .int (nI z15.1)), (0, .ref b0)]) hx hb dX11_digest_193 rfl hl (by decide) rfl (fun ls hl => ?_)
  refine lv_iconst (v := (0 : Int32)) hx hb dX11_digest_194 (by decide) ?_
  refine lv_istore_n (lv' := [(3, .int (0 : Int32)), (1, .long (((31 : Int64) * (((31 : Int64) * (((31 : Int64) * z15.2) + (F11_stored x1))) + (F11_pump x1).toInt64)) + (F11_reason x1).toInt64)), (0, .ref b0)]) hx hb dX11_digest_195 rfl hl (by decide) rfl (fun ls hl => ?_)
  have loop196 : ∀ (fu : Nat) (i : Nat) (zz : Int64) (hi : i ≤ 12) (hm : 12 - i < fu) (kk : ∀ z : Nat × Int64, z = L11_digest_196 x0 x1 z2 z4 z15 fu i zz → ((z.1) ≤ 12) → ∀ (locs : List Loc) (_ : va_S nF s.heap s.heap locs) (ls : Array Slot) (_ : lv_has ls 4 [(3, .int (nI z.1)), (1, .long z.2), (0, .ref b0)]), W p l e (headSpec wsX11_digest ({ frames := 4, cells := 0, slots := 0, locals := 99 })).room s m #[.ref b0] below meth c s.heap locs 0 0 (MQ below (va_Ql (fun (r : Int64) (_ : Unit) => r = F11_digest x0 x1) (qE s.heap) nF) #[.ref b0] s 0 0 nF) (F0 m 221 ls [])), ∀ (locs : List Loc) (_ : va_S nF s.heap s.heap locs) (ls : Array Slot) (_ : lv_has ls 4 [(3, .int (nI i)), (1, .long zz), (0, .ref b0)]), W p l e (headSpec wsX11_digest ({ frames := 4, cells := 0, slots := 0, locals := 99 })).room s m #[.ref b0] below meth c s.heap locs 0 0 (MQ below (va_Ql (fun (r : Int64) (_ : Unit) => r = F11_digest x0 x1) (qE s.heap) nF) #[.ref b0] s 0 0 nF) (F0 m 196 ls []) := by
    intro fu
    induction fu with
    | zero => intro i zz hi hm; exact absurd hm (by omega)
    | succ fu ih =>
      intro i zz hi hm kk locs hS ls hl
      refine lv_iload_n hx hb dX11_digest_196 rfl (lv_at hl 0 rfl) ?_
      refine lv_bipush (v := (12 : Int32)) hx hb dX11_digest_197 (by decide) ?_
      refine lv_icmp_ge (tgt := 221) hx hb dX11_digest_199 (by decide) (fun c16 => ?_) (fun c16 => ?_)
      · have c16 : 12 ≤ i := (nI_leI (a := 12) (b := i) (by omega) (by omega)).mp c16
        exact kk (i, zz) ((Eq.trans (if_pos c16) (rfl)).symm) hi locs hS ls (lv_sub hl [0, 1, 2] rfl)
      · have c16 : ¬ (12 ≤ i) := fun h9 => c16 ((nI_leI (a := 12) (b := i) (by omega) (by omega)).mpr h9)
        refine lv_ldc2 (own := RX11) (index := 247) (v := (31 : Int64)) hx hb hown (hts (.constantLong RX11 247 (31)) (List.mem_of_getElem? (i := 2) rfl)) dX11_digest_202 ?_
        refine lv_lload_n hx hb dX11_digest_205 rfl (lv_at hl 1 rfl) ?_
        refine lv_lmul hx hb dX11_digest_206 ?_
        refine lv_aload_n hx hb dX11_digest_207 rfl (lv_at hl 2 rfl) ?_
        refine lv_iload_n hx hb dX11_digest_208 rfl (lv_at hl 0 rfl) ?_
        have hPc : va_P D vwCl (wF [gN b0 b2 b1 x0, gR cL b2 x1]) s.heap := hP.sub [0, 1] rfl
        refine c_Ri (va_runV (As := [.int (nI i)]) (rest := [.long ((31 : Int64) * zz)]) ⟨hx, hb, hml, hown, hts⟩ (m11_minutesWith l D cI cL cP b0 b1 b2 x0 x1 (nI i) s.heap) (cwV 1 hts gX11_digest_X11_minutesWith rfl rfl rfl (by decide +kernel) ⟨Nat.le_of_ble_eq_true rfl, Nat.le_of_ble_eq_true rfl⟩) (preR_V (q := (RX11, TX11, 10)) (q0 := 0) hQ hPc rfl rfl) rfl rfl hl.1 rfl (lv_room (Nat.le_of_ble_eq_true rfl)) dX11_digest_209 ⟨Nat.le_of_ble_eq_true rfl, Nat.le_of_ble_eq_true rfl⟩) hS (fun locs hS => ?_)
        refine lv_i2l hx hb dX11_digest_212 rfl ?_
        refine lv_ladd hx hb dX11_digest_213 ?_
        refine lv_lstore_n (lv' := [(1, .long (((31 : Int64) * zz) + (F11_minutesWith x1 (nI i)).toInt64)), (3, .int (nI i)), (0, .ref b0)]) hx hb dX11_digest_214 rfl hl (by decide) rfl (fun ls hl => ?_)
        refine lv_iinc (v := (nI (i + 1))) (lv' := [(3, .int (nI (i + 1))), (1, .long (((31 : Int64) * zz) + (F11_minutesWith x1 (nI i)).toInt64)), (0, .ref b0)]) hx hb dX11_digest_215 hl (k := 1) rfl (nI_add i 1) (by decide) rfl (fun ls hl => ?_)
        refine lv_goto (tgt := 196) hx hb dX11_digest_218 (by decide) ?_
        exact ih (i + 1) (((31 : Int64) * zz) + (F11_minutesWith x1 (nI i)).toInt64) (by omega) (by omega) (fun z hz => kk z (hz.trans ((Eq.trans (if_neg c16) (rfl)).symm))) locs hS ls (lv_sub hl [0, 1, 2] rfl)
  refine loop196 13 0 (((31 : Int64) * (((31 : Int64) * (((31 : Int64) * z15.2) + (F11_stored x1))) + (F11_pump x1).toInt64)) + (F11_reason x1).toInt64) (by omega) (by omega) (fun z17 hz17 hi_z17 locs hS ls hl => ?_) locs hS ls (lv_sub hl [0, 1, 2] rfl)
  refine lv_ldc2 (own := RX11) (index := 247) (v := (31 : Int64)) hx hb hown (hts (.constantLong RX11 247 (31)) (List.mem_of_getElem? (i := 2) rfl)) dX11_digest_221 ?_
  refine lv_lload_n hx hb dX11_digest_224 rfl (lv_at hl 1 rfl) ?_
  refine lv_lmul hx hb dX11_digest_225 ?_
  refine lv_aload_n hx hb dX11_digest_226 rfl (lv_at hl 2 rfl) ?_
  have hPc : va_P D vwCl (wF [gN b0 b2 b1 x0, gR cL b2 x1]) s.heap := hP.sub [0, 1] rfl
  refine c_Ri (va_runV (As := []) (rest := [.long ((31 : Int64) * z17.2)]) ⟨hx, hb, hml, hown, hts⟩ (m11_startsLastHour l D cI cL cP b0 b1 b2 x0 x1 s.heap) (cwV 0 hts gX11_digest_X11_startsLastHour rfl rfl rfl (by decide +kernel) ⟨Nat.le_of_ble_eq_true rfl, Nat.le_of_ble_eq_true rfl⟩) (preR_V (q := (RX11, TX11, 10)) (q0 := 0) hQ hPc rfl rfl) rfl rfl hl.1 rfl (lv_room (Nat.le_of_ble_eq_true rfl)) dX11_digest_227 ⟨Nat.le_of_ble_eq_true rfl, Nat.le_of_ble_eq_true rfl⟩) hS (fun locs hS => ?_)
  refine lv_i2l hx hb dX11_digest_230 rfl ?_
  refine lv_ladd hx hb dX11_digest_231 ?_
  refine lv_lstore_n (lv' := [(1, .long (((31 : Int64) * z17.2) + (F11_startsLastHour x0 x1).toInt64)), (3, .int (nI z17.1)), (0, .ref b0)]) hx hb dX11_digest_232 rfl hl (by decide) rfl (fun ls hl => ?_)
  refine lv_ldc2 (own := RX11) (index := 247) (v := (31 : Int64)) hx hb hown (hts (.constantLong RX11 247 (31)) (List.mem_of_getElem? (i := 2) rfl)) dX11_digest_233 ?_
  refine lv_lload_n hx hb dX11_digest_236 rfl (lv_at hl 0 rfl) ?_
  refine lv_lmul hx hb dX11_digest_237 ?_
  refine lv_aload_n hx hb dX11_digest_238 rfl (lv_at hl 2 rfl) ?_
  have hPc : va_P D vwCl (wF [gN b0 b2 b1 x0, gR cL b2 x1]) s.heap := hP.sub [0, 1] rfl
  refine c_Ri (va_runV (As := []) (rest := [.long ((31 : Int64) * (((31 : Int64) * z17.2) + (F11_startsLastHour x0 x1).toInt64))]) ⟨hx, hb, hml, hown, hts⟩ (m11_starts l D cI cL cP b0 b1 b2 x0 x1 s.heap) (cwV 0 hts gX11_digest_X11_starts rfl rfl rfl (by decide +kernel) ⟨Nat.le_of_ble_eq_true rfl, Nat.le_of_ble_eq_true rfl⟩) (preR_V (q := (RX11, TX11, 10)) (q0 := 0) hQ hPc rfl rfl) rfl rfl hl.1 rfl (lv_room (Nat.le_of_ble_eq_true rfl)) dX11_digest_239 ⟨Nat.le_of_ble_eq_true rfl, Nat.le_of_ble_eq_true rfl⟩) hS (fun locs hS => ?_)
  refine lv_i2l hx hb dX11_digest_242 rfl ?_
  refine lv_ladd hx hb dX11_digest_243 ?_
  refine lv_lstore_n (lv' := [(1, .long (((31 : Int64) * (((31 : Int64) * z17.2) + (F11_startsLastHour x0 x1).toInt64)) + (F11_starts x1).toInt64)), (3, .int (nI z17.1)), (0, .ref b0)]) hx hb dX11_digest_244 rfl hl (by decide) rfl (fun ls hl => ?_)
  refine lv_ldc2 (own := RX11) (index := 247) (v := (31 : Int64)) hx hb hown (hts (.constantLong RX11 247 (31)) (List.mem_of_getElem? (i := 2) rfl)) dX11_digest_245 ?_
  refine lv_lload_n hx hb dX11_digest_248 rfl (lv_at hl 0 rfl) ?_
  refine lv_lmul hx hb dX11_digest_249 ?_
  refine lv_aload_n hx hb dX11_digest_250 rfl (lv_at hl 2 rfl) ?_
  have hPc : va_P D vwCl (wF [gN b0 b2 b1 x0, gR cL b2 x1]) s.heap := hP.sub [0, 1] rfl
  refine c_Ri (va_runV (As := []) (rest := [.long ((31 : Int64) * (((31 : Int64) * (((31 : Int64) * z17.2) + (F11_startsLastHour x0 x1).toInt64)) + (F11_starts x1).toInt64))]) ⟨hx, hb, hml, hown, hts⟩ (m11_defrosts l D cI cL cP b0 b1 b2 x0 x1 s.heap) (cwV 0 hts gX11_digest_X11_defrosts rfl rfl rfl (by decide +kernel) ⟨Nat.le_of_ble_eq_true rfl, Nat.le_of_ble_eq_true rfl⟩) (preR_V (q := (RX11, TX11, 10)) (q0 := 0) hQ hPc rfl rfl) rfl rfl hl.1 rfl (lv_room (Nat.le_of_ble_eq_true rfl)) dX11_digest_251 ⟨Nat.le_of_ble_eq_true rfl, Nat.le_of_ble_eq_true rfl⟩) hS (fun locs hS => ?_)
  refine lv_i2l hx hb dX11_digest_254 rfl ?_
  refine lv_ladd hx hb dX11_digest_255 ?_
  refine lv_lstore_n (lv' := [(1, .long (((31 : Int64) * (((31 : Int64) * (((31 : Int64) * z17.2) + (F11_startsLastHour x0 x1).toInt64)) + (F11_starts x1).toInt64)) + (F11_defrosts x1).toInt64)), (3, .int (nI z17.1)), (0, .ref b0)]) hx hb dX11_digest_256 rfl hl (by decide) rfl (fun ls hl => ?_)
  refine lv_ldc2 (own := RX11) (index := 247) (v := (31 : Int64)) hx hb hown (hts (.constantLong RX11 247 (31)) (List.mem_of_getElem? (i := 2) rfl)) dX11_digest_257 ?_
  refine lv_lload_n hx hb dX11_digest_260 rfl (lv_at hl 0 rfl) ?_
  refine lv_lmul hx hb dX11_digest_261 ?_
  refine lv_aload_n hx hb dX11_digest_262 rfl (lv_at hl 2 rfl) ?_
  have hPc : va_P D vwCl (wF [gN b0 b2 b1 x0, gR cL b2 x1]) s.heap := hP.sub [0, 1] rfl
  refine c_Ri (va_runV (As := []) (rest := [.long ((31 : Int64) * (((31 : Int64) * (((31 : Int64) * (((31 : Int64) * z17.2) + (F11_startsLastHour x0 x1).toInt64)) + (F11_starts x1).toInt64)) + (F11_defrosts x1).toInt64))]) ⟨hx, hb, hml, hown, hts⟩ (m11_frost l D cI cL cP b0 b1 b2 x0 x1 s.heap) (cwV 0 hts gX11_digest_X11_frost rfl rfl rfl (by decide +kernel) ⟨Nat.le_of_ble_eq_true rfl, Nat.le_of_ble_eq_true rfl⟩) (preR_V (q := (RX11, TX11, 10)) (q0 := 0) hQ hPc rfl rfl) rfl rfl hl.1 rfl (lv_room (Nat.le_of_ble_eq_true rfl)) dX11_digest_263 ⟨Nat.le_of_ble_eq_true rfl, Nat.le_of_ble_eq_true rfl⟩) hS (fun locs hS => ?_)
  refine lv_i2l hx hb dX11_digest_266 rfl ?_
  refine lv_ladd hx hb dX11_digest_267 ?_
  refine lv_lstore_n (lv' := [(1, .long (((31 : Int64) * (((31 : Int64) * (((31 : Int64) * (((31 : Int64) * z17.2) + (F11_startsLastHour x0 x1).toInt64)) + (F11_starts x1).toInt64)) + (F11_defrosts x1).toInt64)) + (F11_frost x1).toInt64)), (3, .int (nI z17.1)), (0, .ref b0)]) hx hb dX11_digest_268 rfl hl (by decide) rfl (fun ls hl => ?_)
  refine lv_iconst (v := (0 : Int32)) hx hb dX11_digest_269 (by decide) ?_
  refine lv_istore_n (lv' := [(3, .int (0 : Int32)), (1, .long (((31 : Int64) * (((31 : Int64) * (((31 : Int64) * (((31 : Int64) * z17.2) + (F11_startsLastHour x0 x1).toInt64)) + (F11_starts x1).toInt64)) + (F11_defrosts x1).toInt64)) + (F11_frost x1).toInt64)), (0, .ref b0)]) hx hb dX11_digest_270 rfl hl (by decide) rfl (fun ls hl => ?_)
  have loop271 : ∀ (fu : Nat) (i : Nat) (zz : Int64) (hi : i ≤ 7) (hm : 7 - i < fu) (kk : ∀ z : Nat × Int64, z = L11_digest_271 x0 x1 z2 z4 z15 z17 fu i zz → ((z.1) ≤ 7) → ∀ (locs : List Loc) (_ : va_S nF s.heap s.heap locs) (ls : Array Slot) (_ : lv_has ls 4 [(3, .int (nI z.1)), (1, .long z.2), (0, .ref b0)]), W p l e (headSpec wsX11_digest ({ frames := 4, cells := 0, slots := 0, locals := 99 })).room s m #[.ref b0] below meth c s.heap locs 0 0 (MQ below (va_Ql (fun (r : Int64) (_ : Unit) => r = F11_digest x0 x1) (qE s.heap) nF) #[.ref b0] s 0 0 nF) (F0 m 299 ls [])), ∀ (locs : List Loc) (_ : va_S nF s.heap s.heap locs) (ls : Array Slot) (_ : lv_has ls 4 [(3, .int (nI i)), (1, .long zz), (0, .ref b0)]), W p l e (headSpec wsX11_digest ({ frames := 4, cells := 0, slots := 0, locals := 99 })).room s m #[.ref b0] below meth c s.heap locs 0 0 (MQ below (va_Ql (fun (r : Int64) (_ : Unit) => r = F11_digest x0 x1) (qE s.heap) nF) #[.ref b0] s 0 0 nF) (F0 m 271 ls []) := by
    intro fu
    induction fu with
    | zero => intro i zz hi hm; exact absurd hm (by omega)
    | succ fu ih =>
      intro i zz hi hm kk locs hS ls hl
      refine lv_iload_n hx hb dX11_digest_271 rfl (lv_at hl 0 rfl) ?_
      refine lv_bipush (v := (7 : Int32)) hx hb dX11_digest_272 (by decide) ?_
      refine lv_icmp_ge (tgt := 299) hx hb dX11_digest_274 (by decide) (fun c18 => ?_) (fun c18 => ?_)
      · have c18 : 7 ≤ i := (nI_leI (a := 7) (b := i) (by omega) (by omega)).mp c18
        exact kk (i, zz) ((Eq.trans (if_pos c18) (rfl)).symm) hi locs hS ls (lv_sub hl [0, 1, 2] rfl)
      · have c18 : ¬ (7 ≤ i) := fun h9 => c18 ((nI_leI (a := 7) (b := i) (by omega) (by omega)).mpr h9)
        refine lv_ldc2 (own := RX11) (index := 247) (v := (31 : Int64)) hx hb hown (hts (.constantLong RX11 247 (31)) (List.mem_of_getElem? (i := 2) rfl)) dX11_digest_277 ?_
        refine lv_lload_n hx hb dX11_digest_280 rfl (lv_at hl 1 rfl) ?_
        refine lv_lmul hx hb dX11_digest_281 ?_
        refine lv_aload_n hx hb dX11_digest_282 rfl (lv_at hl 2 rfl) ?_
        refine va_get (D := D) (ci := 11) (v := .ref b2) (C := RX11) (T := TX11) (N := 10) hx hb hts hinX11 hown hQ.1 hP 0 rfl rfl 0 (by decide) (hts (.fieldLink RX11 7 "HeatPumpPlantModel" "row" "[J") (List.mem_of_getElem? (i := 3) rfl)) (fun _ h9 => h9) rfl dX11_digest_283 ?_
        refine lv_bipush (v := (107 : Int32)) hx hb dX11_digest_286 (by decide) ?_
        refine lv_iload_n hx hb dX11_digest_288 rfl (lv_at hl 0 rfl) ?_
        refine lv_iadd hx hb dX11_digest_289 ?_
        refine w_lald (f := x1) (j := (107 + i)) hx hb hQ.1 hP 1 1 rfl rfl ((congr (congrArg HAdd.hAdd (show (107 : Int32) = nI 107 from (rfl : (107 : Int32) = nI 107))) (show (nI i) = nI i from rfl)).trans (nI_add 107 i)) (by omega) (by decide) dX11_digest_290 ?_
        refine lv_ladd hx hb dX11_digest_291 ?_
        refine lv_lstore_n (lv' := [(1, .long (((31 : Int64) * zz) + (x1 (107 + i)))), (3, .int (nI i)), (0, .ref b0)]) hx hb dX11_digest_292 rfl hl (by decide) rfl (fun ls hl => ?_)
        refine lv_iinc (v := (nI (i + 1))) (lv' := [(3, .int (nI (i + 1))), (1, .long (((31 : Int64) * zz) + (x1 (107 + i)))), (0, .ref b0)]) hx hb dX11_digest_293 hl (k := 1) rfl (nI_add i 1) (by decide) rfl (fun ls hl => ?_)
        refine lv_goto (tgt := 271) hx hb dX11_digest_296 (by decide) ?_
        exact ih (i + 1) (((31 : Int64) * zz) + (x1 (107 + i))) (by omega) (by omega) (fun z hz => kk z (hz.trans ((Eq.trans (if_neg c18) (rfl)).symm))) locs hS ls (lv_sub hl [0, 1, 2] rfl)
  refine loop271 8 0 (((31 : Int64) * (((31 : Int64) * (((31 : Int64) * (((31 : Int64) * z17.2) + (F11_startsLastHour x0 x1).toInt64)) + (F11_starts x1).toInt64)) + (F11_defrosts x1).toInt64)) + (F11_frost x1).toInt64) (by omega) (by omega) (fun z19 hz19 hi_z19 locs hS ls hl => ?_) locs hS ls (lv_sub hl [0, 1, 2] rfl)
  refine lv_ldc2 (own := RX11) (index := 247) (v := (31 : Int64)) hx hb hown (hts (.constantLong RX11 247 (31)) (List.mem_of_getElem? (i := 2) rfl)) dX11_digest_299 ?_
  refine lv_lload_n hx hb dX11_digest_302 rfl (lv_at hl 1 rfl) ?_
  refine lv_lmul hx hb dX11_digest_303 ?_
  refine lv_aload_n hx hb dX11_digest_304 rfl (lv_at hl 2 rfl) ?_
  refine va_get (D := D) (ci := 11) (v := .int (nI x0.2.1)) (C := RX11) (T := TX11) (N := 10) hx hb hts hinX11 hown hQ.1 hP 0 rfl rfl 3 (by decide) (hts (.fieldLink RX11 201 "HeatPumpPlantModel" "length" "I") (List.mem_of_getElem? (i := 4) rfl)) (fun _ h9 => h9) rfl dX11_digest_305 ?_
  refine lv_i2l hx hb dX11_digest_308 rfl ?_
  refine lv_ladd hx hb dX11_digest_309 ?_
  refine lv_lstore_n (lv' := [(1, .long (((31 : Int64) * z19.2) + (nI x0.2.1).toInt64)), (3, .int (nI z19.1)), (0, .ref b0)]) hx hb dX11_digest_310 rfl hl (by decide) rfl (fun ls hl => ?_)
  refine lv_ldc2 (own := RX11) (index := 247) (v := (31 : Int64)) hx hb hown (hts (.constantLong RX11 247 (31)) (List.mem_of_getElem? (i := 2) rfl)) dX11_digest_311 ?_
  refine lv_lload_n hx hb dX11_digest_314 rfl (lv_at hl 0 rfl) ?_
  refine lv_lmul hx hb dX11_digest_315 ?_
  refine lv_aload_n hx hb dX11_digest_316 rfl (lv_at hl 2 rfl) ?_
  refine va_get (D := D) (ci := 11) (v := .int (nI x0.1)) (C := RX11) (T := TX11) (N := 10) hx hb hts hinX11 hown hQ.1 hP 0 rfl rfl 1 (by decide) (hts (.fieldLink RX11 47 "HeatPumpPlantModel" "kept" "I") (List.mem_of_getElem? (i := 5) rfl)) (fun _ h9 => h9) rfl dX11_digest_317 ?_
  refine lv_i2l hx hb dX11_digest_320 rfl ?_
  refine lv_ladd hx hb dX11_digest_321 ?_
  exact W.lret (v := (((31 : Int64) * (((31 : Int64) * z19.2) + (nI x0.2.1).toInt64)) + (nI x0.1).toInt64)) hx hb hr (fun t ht hW => ⟨⟨(((31 : Int64) * (((31 : Int64) * z19.2) + (nI x0.2.1).toInt64)) + (nI x0.1).toInt64), (), rfl, ((Eq.trans (congrArg (K11_digest_1 x0 x1) hz2.symm) (Eq.trans (congrArg (K11_digest_2 x0 x1 z2) hz4.symm) (Eq.trans (congrArg (K11_digest_3 x0 x1 z2 z4) hz15.symm) (Eq.trans (congrArg (K11_digest_4 x0 x1 z2 z4 z15) hz17.symm) (Eq.trans (congrArg (K11_digest_5 x0 x1 z2 z4 z15 z17) hz19.symm) (rfl)))))).symm), ht⟩, hS.F ht⟩) hS.2.2 dX11_digest_322
