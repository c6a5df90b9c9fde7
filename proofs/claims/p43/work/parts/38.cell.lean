/-! the law's helper that reads the script; what holds of the start whichever record of draws it bears -/
def F12_cell (L : Nat) (xs : Nat → Int32) (p2 : Int32) : Int32 := if nI L ≤ p2 then ((7919 : Int32) * (p2 + (3 : Int32))) * (p2 + (11 : Int32)) else xs p2.toNatClampNeg
def pX (b L : Nat) (xs : Nat → Int32) (H0 : Heap) : State → Prop := fun U => U.heap = H0 ∧ va_X b L xs U U.heap ∧ b < U.heap.size
theorem pX_blind {b L : Nat} {xs : Nat → Int32} {H0 : Heap} {av : List Value} : FrameBlind (va_Pc av (pX b L xs H0)) := fun a u g mk q => ⟨q.1, q.2.1, va_X.moved (u := u) (U := u.calling g mk a) (Vm.Alike.refl u.vm) q.2.2.1, q.2.2.2⟩
theorem preX_S {s : State} {H : Heap} {As : List Value} {b L : Nat} {xs : Nat → Int32} (hX : va_X b L xs s H) (hb : b < H.size) : PreS s H (va_Pc As (pX b L xs H)) As := ⟨pX_blind, fun U hU hW => ⟨rfl, hU, by rw [hU]; exact va_X.moved hW.alike hX, by rw [hU]; exact hb⟩⟩
set_option maxHeartbeats 4000000 in
set_option maxRecDepth 100000 in
theorem m12_cell (l : Launch) (b L : Nat) (xs : Nat → Int32) (p2 : Int32) (hL : L < 2 ^ 31) (h0 : ¬ p2 < 0) (H0 : Heap) : Met l yX12_cell wsX12_cell ({ frames := 0, cells := 0, slots := 0, locals := 0 }) (va_Pc [.ref b, .int p2] (pX b L xs H0)) (va_Qi (fun (r : Int32) (_ : Unit) => r = F12_cell L xs p2) (qE H0) nF) 0 0 nF := by
  refine Met.ofW (cc := cX12_cell) (maxL := 2) (ret := (some .int)) (by decide) rfl ?_
  intro p e s m args below meth c s₁ B hml hv
  obtain ⟨rfl, rfl, hX, hbl⟩ := hv
  have hx := B.exec
  have hb := B.bytes
  have hr := B.returns
  have hS : va_S nF s.heap s.heap [] := va_S.rf
  have hl := lv_entry ([.ref b, .int p2]) (n := 2) (Nat.le_of_ble_eq_true rfl)
  rw [lg_entry_eq]
  generalize (lg_sl ([.ref b, .int p2]) ++ List.replicate (2 - (lg_sl ([.ref b, .int p2])).length) Slot.unset).toArray = ls at hl ⊢
  have hl : lv_has ls 2 [(0, .ref b), (1, .int p2)] := hl
  refine lv_iload_n hx hb dX12_cell_0 rfl (lv_at hl 1 rfl) ?_
  refine lv_aload_n hx hb dX12_cell_1 rfl (lv_at hl 0 rfl) ?_
  refine va_slen hx hb hX hbl (fun h => h) hS dX12_cell_2 ?_
  refine lv_icmp_ge (tgt := 12) hx hb dX12_cell_3 (by decide) (fun c1 => ?_) (fun c1 => ?_)
  · have c1 : nI L ≤ p2 := c1
    refine lv_sipush (v := 7919) hx hb dX12_cell_12 (by decide) ?_
    refine lv_iload_n hx hb dX12_cell_15 rfl (lv_at hl 1 rfl) ?_
    refine lv_iconst (v := 3) hx hb dX12_cell_16 (by decide) ?_
    refine lv_iadd hx hb dX12_cell_17 ?_
    refine lv_imul hx hb dX12_cell_18 ?_
    refine lv_iload_n hx hb dX12_cell_19 rfl (lv_at hl 1 rfl) ?_
    refine lv_bipush (v := 11) hx hb dX12_cell_20 (by decide) ?_
    refine lv_iadd hx hb dX12_cell_22 ?_
    refine lv_imul hx hb dX12_cell_23 ?_
    exact W.iret (v := ((7919 : Int32) * (p2 + (3 : Int32))) * (p2 + (11 : Int32))) hx hb hr (fun t ht hW => ⟨⟨((7919 : Int32) * (p2 + (3 : Int32))) * (p2 + (11 : Int32)), (), rfl, (if_pos c1).symm, ht⟩, hS.F ht⟩) hS.2.2 dX12_cell_24
  · have c1 : ¬ nI L ≤ p2 := c1
    refine lv_aload_n hx hb dX12_cell_6 rfl (lv_at hl 0 rfl) ?_
    refine lv_iload_n hx hb dX12_cell_7 rfl (lv_at hl 1 rfl) ?_
    refine va_sld hx hb hX hbl (fun h => h) hS (w_inx hL h0 c1) dX12_cell_8 ?_
    refine lv_goto (tgt := 24) hx hb dX12_cell_9 (by decide) ?_
    exact W.iret (v := xs p2.toNatClampNeg) hx hb hr (fun t ht hW => ⟨⟨xs p2.toNatClampNeg, (), rfl, (if_neg c1).symm, ht⟩, hS.F ht⟩) hS.2.2 dX12_cell_24
theorem kQ.dr {D : va_G} {cI cL cP : ClassId} {s : State} (h : kQ D cI cL cP s) (d : Drawn) : kQ D cI cL cP (s.setDrawn d) := ⟨h.1, fun q hq => va_Nw.same (u := s) rfl rfl (h.2 q hq)⟩
/-- nothing was used yet, in the present state and in the remembered ones -/
def elZ (u : PlS) (h : Nat → PlS) : Prop := F10_electricity u = 0 ∧ ∀ j, F10_electricity (h j) = 0
theorem elZ_rec {u : PlS} {o k : Nat} {h : Nat → PlS} (hZ : elZ u h) : elZ u (F4_record o k h u).2.2 := by
  refine ⟨hZ.1, fun j => ?_⟩
  unfold F4_record
  split
  · show F10_electricity (if _ then _ else _) = 0
    split
    · exact hZ.1
    · exact hZ.2 j
  · show F10_electricity (if _ then _ else _) = 0
    split
    · exact hZ.1
    · exact hZ.2 j
theorem elZ_undo {u : PlS} {o k : Nat} {h : Nat → PlS} (hZ : elZ u h) : elZ (F10_undo u o k h).2.1 (F10_undo u o k h).2.2.2 := by
  unfold F10_undo K10_undo_1 F4_restore
  split
  · exact hZ
  · exact ⟨hZ.2 _, hZ.2⟩
theorem elZ_load {u : PlS} {o k : Nat} {h : Nat → PlS} {x1 : ST} (hZ : elZ u h) : elZ (F10_loadWeather u o k h x1).2.1 (F10_loadWeather u o k h x1).2.2.1.2 := by
  unfold F10_loadWeather K10_loadWeather_1
  split
  · exact ⟨hZ.1, (elZ_rec hZ).2⟩
  · exact hZ
