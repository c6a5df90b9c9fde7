set_option maxHeartbeats 4000000 in
set_option maxRecDepth 100000 in
/-- THE LAW'S LOOP -/
theorem lw_loop {p : Program} {l : Launch} {e : Env} {s : State} {m : MethodId} {below : List Frame} {meth : Method} {c : Code} {D : va_G} {cI cL cP : ClassId} {b L : Nat} {xs : Nat → Int32} {bx : Nat} {a a1 : Nat → Nat} {hi hb2 : Nat} {ca : Nat → Nat → Nat} {wt wb bm mr mt : Nat} (C0 : lwC p s m c D cI cL cP b L xs) (hL : L ≤ 1536) (hr : meth.sig.returnType = ret) (hlocks : meth.locks = false) :
    ∀ (n i : Nat) {u u1 : PlS} {o k : Nat} {h : Nat → PlS} {st : ST} {x : MoN} {f : Nat → Int64} {g : SS} {H : Heap} {locs : List Loc} {ls : Array Slot} {d0 : Drawn}, i ≤ L → L + 1 ≤ i + n → s.drawn.sameBut d0 lw_cs → lv_has ls 8 [(0, .ref b), (1, .ref bx), (2, .ref bm), (3, .int (nI i))] → rM u o k h st x f g → va_P D vwCl (wF (lG cI cL cP bx a a1 hi hb2 ca wt wb bm mr mt u u1 o k h st x f g)) H → va_D (fun q : Nat => s.heap.size ≤ q) (wF (lG cI cL cP bx a a1 hi hb2 ca wt wb bm mr mt u u1 o k h st x f g)) → va_S (fun q : Nat => s.heap.size ≤ q) s.heap H locs →
      W p l e room_1 (s.setDrawn d0) m #[Value.ref b] below meth c H locs 600000 7302250 (lw_Z below #[Value.ref b] s) (F0 m 18 ls []) := by
  have C1 := C0
  obtain ⟨hx, hb, hml, hown, hts, hX, hbl, hQ, hz⟩ := C1
  have hbA : ¬ (fun q : Nat => s.heap.size ≤ q) b := Nat.not_le.mpr hbl
  intro n
  induction n with
  | zero =>
    intro i u u1 o k h st x f g H locs ls d0 h1 h2
    exact absurd h2 (by omega)
  | succ n ih =>
    intro i u u1 o k h st x f g H locs ls d0 h1 h2 hd0 hl RR hP hD hS
    refine lv_iload_n hx hb dL_law_18 rfl (lv_at hl 3 rfl) ?_
    refine lv_aload_n hx hb dL_law_19 rfl (lv_at hl 0 rfl) ?_
    refine va_slen (s := s.setDrawn d0) hx hb hX hbl hbA hS dL_law_20 ?_
    refine lv_iconst (v := 3) hx hb dL_law_21 (by decide) ?_
    refine lv_isub hx hb dL_law_22 ?_
    have eL : (Int32.ofNat L - 3).toInt = (L : Int) - 3 := pk_sub_toInt (a := L) (b := 3) (by omega) (by omega)
    have ei : (nI i).toInt = (i : Int) := nI_toInt (by omega)
    refine lv_icmp_gt (tgt := 1022) hx hb dL_law_23 (by decide) (fun c1 => ?_) (fun c1 => ?_)
    · refine lv_iconst (v := 1) hx hb dL_law_1022 (by decide) ?_
      refine va_forget (fun q hq => hS.2.2 q hq) ?_
      exact lw_ret hd0 hx hb hr hlocks dL_law_1023
    · have hiL : i + 3 ≤ L := by
        rw [w_ltI, eL, ei] at c1
        omega
      have K : ∀ {u u1 : PlS} {o k : Nat} {h : Nat → PlS} {st : ST} {x : MoN} {f : Nat → Int64} {g : SS} {H : Heap} {locs : List Loc} {ls : Array Slot} {d1 : Drawn}, s.drawn.sameBut d1 lw_cs → lv_has ls 8 [(0, .ref b), (1, .ref bx), (2, .ref bm), (3, .int (nI i))] → rM u o k h st x f g → va_P D vwCl (wF (lG cI cL cP bx a a1 hi hb2 ca wt wb bm mr mt u u1 o k h st x f g)) H → va_D (fun q : Nat => s.heap.size ≤ q) (wF (lG cI cL cP bx a a1 hi hb2 ca wt wb bm mr mt u u1 o k h st x f g)) → va_S (fun q : Nat => s.heap.size ≤ q) s.heap H locs → W p l e room_1 (s.setDrawn d1) m #[Value.ref b] below meth c H locs 600000 7302250 (lw_Z below #[Value.ref b] s) (F0 m 1016 ls []) := by
        intro u u1 o k h st x f g H locs ls d1 hd1 hl RR hP hD hS
        refine lv_iinc (v := nI (i + 3)) (lv' := [(3, .int (nI (i + 3))), (0, .ref b), (1, .ref bx), (2, .ref bm)]) hx hb dL_law_1016 hl (k := 3) rfl (by rw [← nI_add i 3]; rfl) (by decide) rfl (fun ls hl => ?_)
        refine lv_goto (tgt := 18) hx hb dL_law_1019 (by decide) ?_
        exact ih (i + 3) hiL (by omega) hd1 (lv_sub hl [1, 2, 3, 0] rfl) RR hP hD hS
      have Cd := C0.dr d0
      refine lv_aload_n hx hb dL_law_26 rfl (lv_at hl 0 rfl) ?_
      refine lv_iload_n hx hb dL_law_27 rfl (lv_at hl 3 rfl) ?_
      refine w_sld (s := s.setDrawn d0) hx hb hX hbl hbA hS (j := i) (by omega) (by omega) dL_law_28 ?_
      refine lv_bipush (v := 63) hx hb dL_law_29 (by decide) ?_
      refine lv_iand hx hb dL_law_31 ?_
      obtain ⟨j, hj, ej⟩ := pk_andE (xs i) (m := 63) 6 (by decide)
      refine w_topn j ej ?_
      clear ej
      have hj : j < 64 := hj
      rcases (show j = 0 ∨ j = 1 ∨ j = 2 ∨ j = 3 ∨ j = 4 ∨ j = 5 ∨ j = 6 ∨ j = 7 ∨ j = 8 ∨ j = 9 ∨ j = 10 ∨ j = 11 ∨ j = 12 ∨ j = 13 ∨ j = 14 ∨ j = 15 ∨ j = 16 ∨ j = 17 ∨ j = 18 ∨ j = 19 ∨ j = 20 ∨ j = 21 ∨ j = 22 ∨ j = 23 ∨ j = 24 ∨ j = 25 ∨ j = 26 ∨ j = 27 ∨ j = 28 ∨ j = 29 ∨ j = 30 ∨ j = 31 ∨ j = 32 ∨ j = 33 ∨ j = 34 ∨ j = 35 ∨ j = 36 ∨ j = 37 ∨ j = 38 ∨ j = 39 ∨ 40 ≤ j by omega) with rfl | rfl | rfl | rfl | rfl | rfl | rfl | rfl | rfl | rfl | rfl | rfl | rfl | rfl | rfl | rfl | rfl | rfl | rfl | rfl | rfl | rfl | rfl | rfl | rfl | rfl | rfl | rfl | rfl | rfl | rfl | rfl | rfl | rfl | rfl | rfl | rfl | rfl | rfl | rfl | hj
      · refine lv_tableIn (off := 176) (tgt := 208) hx hb dL_law_32 (by decide) (by decide) (by decide) (by decide) ?_
        exact lc_set Cd hL hiL hl RR hP hD hS (fun RR hP hD hS => K hd0 hl RR hP hD hS)
      · refine lv_tableIn (off := 209) (tgt := 241) hx hb dL_law_32 (by decide) (by decide) (by decide) (by decide) ?_
        exact lc_setting Cd hL hiL hl RR hP hD hS (fun RR hP hD hS => K hd0 hl RR hP hD hS)
      · refine lv_tableIn (off := 232) (tgt := 264) hx hb dL_law_32 (by decide) (by decide) (by decide) (by decide) ?_
        exact lc_setOutdoor Cd hL hiL hl RR hP hD hS (fun RR hP hD hS => K hd0 hl RR hP hD hS)
      · refine lv_tableIn (off := 265) (tgt := 297) hx hb dL_law_32 (by decide) (by decide) (by decide) (by decide) ?_
        exact lc_outdoor Cd hL hiL hl RR hP hD hS (fun RR hP hD hS => K hd0 hl RR hP hD hS)
      · refine lv_tableIn (off := 288) (tgt := 320) hx hb dL_law_32 (by decide) (by decide) (by decide) (by decide) ?_
        exact lc_setTariff Cd hL hiL hl RR hP hD hS (fun RR hP hD hS => K hd0 hl RR hP hD hS)
      · refine lv_tableIn (off := 321) (tgt := 353) hx hb dL_law_32 (by decide) (by decide) (by decide) (by decide) ?_
        exact lc_tariff Cd hL hiL hl RR hP hD hS (fun RR hP hD hS => K hd0 hl RR hP hD hS)
      · refine lv_tableIn (off := 344) (tgt := 376) hx hb dL_law_32 (by decide) (by decide) (by decide) (by decide) ?_
        exact lc_setPrice Cd hL hiL hl RR hP hD hS (fun RR hP hD hS => K hd0 hl RR hP hD hS)
      · refine lv_tableIn (off := 377) (tgt := 409) hx hb dL_law_32 (by decide) (by decide) (by decide) (by decide) ?_
        exact lc_demand Cd hL hiL hl RR hP hD hS (fun RR hP hD hS => K hd0 hl RR hP hD hS)
      · refine lv_tableIn (off := 400) (tgt := 432) hx hb dL_law_32 (by decide) (by decide) (by decide) (by decide) ?_
        exact lc_addPoint Cd hL hiL hl RR hP hD hS (fun RR hP hD hS => K hd0 hl RR hP hD hS)
      · refine lv_tableIn (off := 433) (tgt := 465) hx hb dL_law_32 (by decide) (by decide) (by decide) (by decide) ?_
        exact lc_removePoint Cd hL hiL hl RR hP hD hS (fun RR hP hD hS => K hd0 hl RR hP hD hS)
      · refine lv_tableIn (off := 456) (tgt := 488) hx hb dL_law_32 (by decide) (by decide) (by decide) (by decide) ?_
        exact lc_supply Cd hL hiL hl RR hP hD hS (fun RR hP hD hS => K hd0 hl RR hP hD hS)
      · refine lv_tableIn (off := 479) (tgt := 511) hx hb dL_law_32 (by decide) (by decide) (by decide) (by decide) ?_
        exact lc_target Cd hL hiL hl RR hP hD hS (fun RR hP hD hS => K hd0 hl RR hP hD hS)
      · refine lv_tableIn (off := 502) (tgt := 534) hx hb dL_law_32 (by decide) (by decide) (by decide) (by decide) ?_
        exact lc_fill Cd hL hiL hl RR hP hD hS (fun RR hP hD hS => K hd0 hl RR hP hD hS)
      · refine lv_tableIn (off := 535) (tgt := 567) hx hb dL_law_32 (by decide) (by decide) (by decide) (by decide) ?_
        exact lc_temperature Cd hL hiL hl RR hP hD hS (fun RR hP hD hS => K hd0 hl RR hP hD hS)
      · refine lv_tableIn (off := 558) (tgt := 590) hx hb dL_law_32 (by decide) (by decide) (by decide) (by decide) ?_
        exact lc_stored Cd hL hiL hl RR hP hD hS (fun RR hP hD hS => K hd0 hl RR hP hD hS)
      · refine lv_tableIn (off := 572) (tgt := 604) hx hb dL_law_32 (by decide) (by decide) (by decide) (by decide) ?_
        exact lc_run Cd hL hiL hl RR hP hD hS (fun RR hP hD hS => K hd0 hl RR hP hD hS)
      · refine lv_tableIn (off := 595) (tgt := 627) hx hb dL_law_32 (by decide) (by decide) (by decide) (by decide) ?_
        exact lc_time Cd hL hiL hl RR hP hD hS (fun RR hP hD hS => K hd0 hl RR hP hD hS)
      · refine lv_tableIn (off := 608) (tgt := 640) hx hb dL_law_32 (by decide) (by decide) (by decide) (by decide) ?_
        exact lc_pump Cd hL hiL hl RR hP hD hS (fun RR hP hD hS => K hd0 hl RR hP hD hS)
      · refine lv_tableIn (off := 621) (tgt := 653) hx hb dL_law_32 (by decide) (by decide) (by decide) (by decide) ?_
        exact lc_reason Cd hL hiL hl RR hP hD hS (fun RR hP hD hS => K hd0 hl RR hP hD hS)
      · refine lv_tableIn (off := 634) (tgt := 666) hx hb dL_law_32 (by decide) (by decide) (by decide) (by decide) ?_
        exact lc_minutesWith Cd hL hiL hl RR hP hD hS (fun RR hP hD hS => K hd0 hl RR hP hD hS)
      · refine lv_tableIn (off := 657) (tgt := 689) hx hb dL_law_32 (by decide) (by decide) (by decide) (by decide) ?_
        exact lc_startsLastHour Cd hL hiL hl RR hP hD hS (fun RR hP hD hS => K hd0 hl RR hP hD hS)
      · refine lv_tableIn (off := 670) (tgt := 702) hx hb dL_law_32 (by decide) (by decide) (by decide) (by decide) ?_
        exact lc_starts Cd hL hiL hl RR hP hD hS (fun RR hP hD hS => K hd0 hl RR hP hD hS)
      · refine lv_tableIn (off := 683) (tgt := 715) hx hb dL_law_32 (by decide) (by decide) (by decide) (by decide) ?_
        exact lc_defrosts Cd hL hiL hl RR hP hD hS (fun RR hP hD hS => K hd0 hl RR hP hD hS)
      · refine lv_tableIn (off := 696) (tgt := 728) hx hb dL_law_32 (by decide) (by decide) (by decide) (by decide) ?_
        exact lc_frost Cd hL hiL hl RR hP hD hS (fun RR hP hD hS => K hd0 hl RR hP hD hS)
      · refine lv_tableIn (off := 709) (tgt := 741) hx hb dL_law_32 (by decide) (by decide) (by decide) (by decide) ?_
        exact lc_produced Cd hL hiL hl RR hP hD hS (fun RR hP hD hS => K hd0 hl RR hP hD hS)
      · refine lv_tableIn (off := 723) (tgt := 755) hx hb dL_law_32 (by decide) (by decide) (by decide) (by decide) ?_
        exact lc_defrostHeat Cd hL hiL hl RR hP hD hS (fun RR hP hD hS => K hd0 hl RR hP hD hS)
      · refine lv_tableIn (off := 737) (tgt := 769) hx hb dL_law_32 (by decide) (by decide) (by decide) (by decide) ?_
        exact lc_drawn Cd hL hiL hl RR hP hD hS (fun RR hP hD hS => K hd0 hl RR hP hD hS)
      · refine lv_tableIn (off := 751) (tgt := 783) hx hb dL_law_32 (by decide) (by decide) (by decide) (by decide) ?_
        exact lc_unmet Cd hL hiL hl RR hP hD hS (fun RR hP hD hS => K hd0 hl RR hP hD hS)
      · refine lv_tableIn (off := 765) (tgt := 797) hx hb dL_law_32 (by decide) (by decide) (by decide) (by decide) ?_
        exact lc_lost Cd hL hiL hl RR hP hD hS (fun RR hP hD hS => K hd0 hl RR hP hD hS)
      · refine lv_tableIn (off := 779) (tgt := 811) hx hb dL_law_32 (by decide) (by decide) (by decide) (by decide) ?_
        exact lc_electricity Cd hL hiL hl RR hP hD hS (fun RR hP hD hS => K hd0 hl RR hP hD hS)
      · refine lv_tableIn (off := 793) (tgt := 825) hx hb dL_law_32 (by decide) (by decide) (by decide) (by decide) ?_
        exact lc_cost Cd hL hiL hl RR hP hD hS (fun RR hP hD hS => K hd0 hl RR hP hD hS)
      · refine lv_tableIn (off := 807) (tgt := 839) hx hb dL_law_32 (by decide) (by decide) (by decide) (by decide) ?_
        exact lc_meanPercentage hd0 C0 hl RR hP hD hS (fun hd1 hl hP hD hS => K hd1 hl RR hP hD hS)
      · refine lv_tableIn (off := 848) (tgt := 880) hx hb dL_law_32 (by decide) (by decide) (by decide) (by decide) ?_
        exact lc_costIn Cd hL hiL hl RR hP hD hS (fun RR hP hD hS => K hd0 hl RR hP hD hS)
      · refine lv_tableIn (off := 872) (tgt := 904) hx hb dL_law_32 (by decide) (by decide) (by decide) (by decide) ?_
        exact lc_nextSwitch Cd hL hiL hl RR hP hD hS (fun RR hP hD hS => K hd0 hl RR hP hD hS)
      · refine lv_tableIn (off := 885) (tgt := 917) hx hb dL_law_32 (by decide) (by decide) (by decide) (by decide) ?_
        exact lc_bestBoost Cd hL hiL hl RR hP hD hS (fun RR hP hD hS => K hd0 hl RR hP hD hS)
      · refine lv_tableIn (off := 908) (tgt := 940) hx hb dL_law_32 (by decide) (by decide) (by decide) (by decide) ?_
        exact lc_type Cd hL hiL hl RR hP hD hS (fun RR hP hD hS => K hd0 hl RR hP hD hS)
      · refine lv_tableIn (off := 931) (tgt := 963) hx hb dL_law_32 (by decide) (by decide) (by decide) (by decide) ?_
        exact lc_clearText Cd hL hiL hl RR hP hD hS (fun RR hP hD hS => K hd0 hl RR hP hD hS)
      · refine lv_tableIn (off := 944) (tgt := 976) hx hb dL_law_32 (by decide) (by decide) (by decide) (by decide) ?_
        exact lc_loadWeather Cd hL hiL hl RR hP hD hS (fun RR hP hD hS => K hd0 hl RR hP hD hS)
      · refine lv_tableIn (off := 957) (tgt := 989) hx hb dL_law_32 (by decide) (by decide) (by decide) (by decide) ?_
        exact lc_undo Cd hL hiL hl RR hP hD hS (fun RR hP hD hS => K hd0 hl RR hP hD hS)
      · refine lv_tableIn (off := 970) (tgt := 1002) hx hb dL_law_32 (by decide) (by decide) (by decide) (by decide) ?_
        exact lc_digest Cd hL hiL hl RR hP hD hS (fun RR hP hD hS => K hd0 hl RR hP hD hS)
      · refine lv_tableOut (tgt := 1016) hx hb dL_law_32 (Or.inr (by rw [nI_toInt (by omega)]; omega)) (by decide) ?_
        exact K hd0 hl RR hP hD hS
