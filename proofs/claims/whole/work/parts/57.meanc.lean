theorem kQ.dr {D : va_G} {cI cL cP : ClassId} {s : State} (h : kQ D cI cL cP s) (d : Drawn) : kQ D cI cL cP (s.setDrawn d) := ⟨h.1, fun q hq => va_Nw.same (u := s) rfl rfl (h.2 q hq)⟩
theorem lwC.dr {p : Program} {s : State} {m : MethodId} {c : Code} {D : va_G} {cI cL cP : ClassId} {b L : Nat} {xs : Nat → Int32} (h : lwC p s m c D cI cL cP b L xs) (d : Drawn) : lwC p (s.setDrawn d) m c D cI cL cP b L xs := by
  obtain ⟨hx, hb, hml, hown, hts, hX, hbl, hQ, hz⟩ := h
  exact ⟨hx, hb, hml, hown, dr_words hts d, hX, hbl, hQ.dr d, zS.moved (u := s) (U := s.setDrawn d) (Vm.Alike.refl s.vm) hz⟩
set_option maxHeartbeats 4000000 in
set_option maxRecDepth 100000 in
theorem lc_meanPercentage {p : Program} {l : Launch} {e : Env} {s : State} {m : MethodId} {below : List Frame} {meth : Method} {c : Code} {D : va_G} {cI cL cP : ClassId} {b L : Nat} {xs : Nat → Int32} {H : Heap} {locs : List Loc} {Q : State → Prop} {ls : Array Slot} {bx : Nat} {a a1 : Nat → Nat} {hi hb2 : Nat} {ca : Nat → Nat → Nat} {wt wb bm mr mt : Nat} {u u1 : PlS} {o k : Nat} {h : Nat → PlS} {st : ST} {x : MoN} {f : Nat → Int64} {g : SS} {d0 : Drawn} (hd0 : s.drawn.sameBut d0 lw_cs) (C0 : lwC p s m c D cI cL cP b L xs) {i : Nat} (hl : lv_has ls 8 [(0, .ref b), (1, .ref bx), (2, .ref bm), (3, .int (nI i))]) (RR : rM u o k h st x f g) (hP : va_P D vwCl (wF (lG cI cL cP bx a a1 hi hb2 ca wt wb bm mr mt u u1 o k h st x f g)) H) (hD : va_D (fun q : Nat => s.heap.size ≤ q) (wF (lG cI cL cP bx a a1 hi hb2 ca wt wb bm mr mt u u1 o k h st x f g))) (hS : va_S (fun q : Nat => s.heap.size ≤ q) s.heap H locs)
    (kk : ∀ {d1 : Drawn} {H : Heap} {locs : List Loc} {ls : Array Slot}, s.drawn.sameBut d1 lw_cs → lv_has ls 8 [(0, .ref b), (1, .ref bx), (2, .ref bm), (3, .int (nI i))] → va_P D vwCl (wF (lG cI cL cP bx a a1 hi hb2 ca wt wb bm mr mt u u1 o k h st x f g)) H → va_D (fun q : Nat => s.heap.size ≤ q) (wF (lG cI cL cP bx a a1 hi hb2 ca wt wb bm mr mt u u1 o k h st x f g)) → va_S (fun q : Nat => s.heap.size ≤ q) s.heap H locs → W p l e room_1 (s.setDrawn d1) m #[Value.ref b] below meth c H locs 600000 7302250 Q (F0 m 1016 ls [])) :
    W p l e room_1 (s.setDrawn d0) m #[Value.ref b] below meth c H locs 600000 7302250 Q (F0 m 839 ls []) := by
  obtain ⟨hx, hb, hml, hown, hts, hX, hbl, hQ, hz⟩ := C0
  have hA : ∀ q : Nat, s.heap.size ≤ q → (fun q : Nat => s.heap.size ≤ q) q := fun _ h => h
  have hP : va_P D vwCl (wF [gX bx (a 0) (a1 0) hi wt, gO (a 0) (a 1) (a 3) (a 7) (a 10) (a 12) (a 14) (a 16) (pT u), gS cI (a 1) (a 2) (pS u), gWe cI (a 3) (a 4) (a 5) (a 6) (pW u), gK cI (a 7) (a 8) (a 9) (pK u), gB cL (a 10) (a 11) (pB u), gP cI (a 12) (a 13) (pP u), gA cI (a 14) (a 15) (pA u), gC (a 16) (pC u), gO (a1 0) (a1 1) (a1 3) (a1 7) (a1 10) (a1 12) (a1 14) (a1 16) (pT u1), gS cI (a1 1) (a1 2) (pS u1), gWe cI (a1 3) (a1 4) (a1 5) (a1 6) (pW u1), gK cI (a1 7) (a1 8) (a1 9) (pK u1), gB cL (a1 10) (a1 11) (pB u1), gP cI (a1 12) (a1 13) (pP u1), gA cI (a1 14) (a1 15) (pA u1), gC (a1 16) (pC u1), gH cP hi hb2 ca ((nI o), (nI k)), gQ cI cL (ca 0) (h 0), gQ cI cL (ca 1) (h 1), gQ cI cL (ca 2) (h 2), gQ cI cL (ca 3) (h 3), gT cI wt wb st, gN bm mr mt x, gR cL mr f, gI cI mt 100 g]) H := hP
  have hD : va_D (fun q : Nat => s.heap.size ≤ q) (wF [gX bx (a 0) (a1 0) hi wt, gO (a 0) (a 1) (a 3) (a 7) (a 10) (a 12) (a 14) (a 16) (pT u), gS cI (a 1) (a 2) (pS u), gWe cI (a 3) (a 4) (a 5) (a 6) (pW u), gK cI (a 7) (a 8) (a 9) (pK u), gB cL (a 10) (a 11) (pB u), gP cI (a 12) (a 13) (pP u), gA cI (a 14) (a 15) (pA u), gC (a 16) (pC u), gO (a1 0) (a1 1) (a1 3) (a1 7) (a1 10) (a1 12) (a1 14) (a1 16) (pT u1), gS cI (a1 1) (a1 2) (pS u1), gWe cI (a1 3) (a1 4) (a1 5) (a1 6) (pW u1), gK cI (a1 7) (a1 8) (a1 9) (pK u1), gB cL (a1 10) (a1 11) (pB u1), gP cI (a1 12) (a1 13) (pP u1), gA cI (a1 14) (a1 15) (pA u1), gC (a1 16) (pC u1), gH cP hi hb2 ca ((nI o), (nI k)), gQ cI cL (ca 0) (h 0), gQ cI cL (ca 1) (h 1), gQ cI cL (ca 2) (h 2), gQ cI cL (ca 3) (h 3), gT cI wt wb st, gN bm mr mt x, gR cL mr f, gI cI mt 100 g]) := hD
  refine lv_aload_n hx hb dL_law_839 rfl (lv_at hl 1 rfl) ?_
  have hPc : va_P D vwCl (wF [gX bx (a 0) (a1 0) hi wt, gO (a 0) (a 1) (a 3) (a 7) (a 10) (a 12) (a 14) (a 16) (pT u), gS cI (a 1) (a 2) (pS u), gWe cI (a 3) (a 4) (a 5) (a 6) (pW u), gK cI (a 7) (a 8) (a 9) (pK u), gB cL (a 10) (a 11) (pB u), gP cI (a 12) (a 13) (pP u), gA cI (a 14) (a 15) (pA u), gC (a 16) (pC u)]) H := w_psub hP [0, 1, 2, 3, 4, 5, 6, 7, 8] rfl
  refine va_calldD hd0 (va_runV_D (As := []) (rest := []) ⟨hx, hb, hml, hown, dr_words hts d0⟩ (m10_meanPercentage l D cI cL cP bx (a1 0) hi wt a u H) (cwV 0 (dr_words hts d0) gL_law_X10_meanPercentage rfl rfl rfl (by decide +kernel) ⟨Nat.le_of_ble_eq_true rfl, Nat.le_of_ble_eq_true rfl⟩) (preR_V (q := (RX10, TX10, 4)) (q0 := 0) (hQ.dr d0) hPc rfl rfl) rfl rfl hl.1 rfl (lv_room (Nat.le_of_ble_eq_true rfl)) dL_law_840 ⟨Nat.le_of_ble_eq_true rfl, Nat.le_of_ble_eq_true rfl⟩) hS (fun _ _ h => h.elim) (fun _ h => h.elim) (fun r1 _ t H1 locs1 ht _ hw1 hB _ _ hS1 d1 hd1 => ?_)
  have hw1 : mPc (F10_electricity u) (F10_produced u) r1 := hw1
  have eH : H1 = H := ht.symm.trans hB
  subst eH
  refine lv_dstore (lv' := [(4, .double r1), (0, .ref b), (1, .ref bx), (2, .ref bm), (3, .int (nI i))]) hx hb dL_law_843 hl (by decide) rfl (fun ls hl => ?_)
  refine lv_aload_n hx hb dL_law_845 rfl (lv_at hl 3 rfl) ?_
  have hPc : va_P D vwCl (wF [gN bm mr mt x, gR cL mr f]) H1 := w_psub hP [23, 24] rfl
  refine va_calldD hd1 (va_runV_D (As := []) (rest := []) ⟨hx, hb, hml, hown, dr_words hts d1⟩ (m11_meanPercentage l D cI cL cP bm mt mr x f H1) (cwV 0 (dr_words hts d1) gL_law_X11_meanPercentage rfl rfl rfl (by decide +kernel) ⟨Nat.le_of_ble_eq_true rfl, Nat.le_of_ble_eq_true rfl⟩) (preR_V (q := (RX11, TX11, 10)) (q0 := 0) (hQ.dr d1) hPc rfl rfl) rfl rfl hl.1 rfl (lv_room (Nat.le_of_ble_eq_true rfl)) dL_law_846 ⟨Nat.le_of_ble_eq_true rfl, Nat.le_of_ble_eq_true rfl⟩) hS1 (fun _ _ h => h.elim) (fun _ h => h.elim) (fun r2 _ t2 H2 locs2 ht2 _ hw2 hB2 _ _ hS2 d2 hd2 => ?_)
  have hw2 : mPc (F11_electricity f) (F11_produced f) r2 := hw2
  have eH2 : H2 = H1 := ht2.symm.trans hB2
  subst eH2
  obtain ⟨s1, -, -, -, -, s6, -⟩ := sums_e RR.1
  rw [← s1, ← s6] at hw2
  have hm := na_m hw1 hw2
  refine lv_dstore (lv' := [(6, .double r2), (4, .double r1), (0, .ref b), (1, .ref bx), (2, .ref bm), (3, .int (nI i))]) hx hb dL_law_849 hl (by decide) rfl (fun ls hl => ?_)
  have hl4 : lv_has ls 8 [(0, .ref b), (1, .ref bx), (2, .ref bm), (3, .int (nI i))] := lv_sub hl [2, 3, 4, 5] rfl
  have K2 : W p l e room_1 (s.setDrawn d2) m #[Value.ref b] below meth c H2 locs2 600000 7302250 Q (F0 m 877 ls []) := lv_goto (tgt := 1016) hx hb dL_law_877 (by decide) (kk hd2 hl4 hP hD hS2)
  refine lv_dload hx hb dL_law_851 (lv_at hl 1 rfl) ?_
  refine lv_dload hx hb dL_law_853 (lv_at hl 0 rfl) ?_
  refine lv_dcmp hx hb dL_law_855 ?_
  refine lv_if_eq (tgt := 877) hx hb dL_law_856 (by decide) (fun _ => K2) (fun h1 => ?_)
  have hm := hm.resolve_left h1
  refine lv_dload hx hb dL_law_859 (lv_at hl 1 rfl) ?_
  refine lv_dload hx hb dL_law_861 (lv_at hl 1 rfl) ?_
  refine lv_dcmp hx hb dL_law_863 ?_
  refine lv_if_eq (tgt := 875) hx hb dL_law_864 (by decide) (fun h2 => absurd h2 hm.1) (fun _ => ?_)
  refine lv_dload hx hb dL_law_867 (lv_at hl 0 rfl) ?_
  refine lv_dload hx hb dL_law_869 (lv_at hl 0 rfl) ?_
  refine lv_dcmp hx hb dL_law_871 ?_
  exact lv_if_ne (tgt := 877) hx hb dL_law_872 (by decide) (fun _ => K2) (fun h3 => absurd h3 hm.2)
