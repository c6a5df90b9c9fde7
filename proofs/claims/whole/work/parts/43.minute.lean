/-! the parts of a minute agree -/
theorem vo_0 (S : SS) : F7_valueOf S 0 = S 0 := el_in (j := 0) (by decide) (by decide)
theorem vo_1 (S : SS) : F7_valueOf S 1 = S 1 := el_in (j := 1) (by decide) (by decide)
theorem vo_2 (S : SS) : F7_valueOf S 2 = S 2 := el_in (j := 2) (by decide) (by decide)
theorem vo_3 (S : SS) : F7_valueOf S 3 = S 3 := el_in (j := 3) (by decide) (by decide)
theorem vo_4 (S : SS) : F7_valueOf S 4 = S 4 := el_in (j := 4) (by decide) (by decide)
theorem vo_5 (S : SS) : F7_valueOf S 5 = S 5 := el_in (j := 5) (by decide) (by decide)
theorem vo_6 (S : SS) : F7_valueOf S 6 = S 6 := el_in (j := 6) (by decide) (by decide)
theorem vo_7 (S : SS) : F7_valueOf S 7 = S 7 := el_in (j := 7) (by decide) (by decide)
theorem vo_8 (S : SS) : F7_valueOf S 8 = S 8 := el_in (j := 8) (by decide) (by decide)
theorem vo_9 (S : SS) : F7_valueOf S 9 = S 9 := el_in (j := 9) (by decide) (by decide)
theorem vo_10 (S : SS) : F7_valueOf S 10 = S 10 := el_in (j := 10) (by decide) (by decide)
theorem vo_11 (S : SS) : F7_valueOf S 11 = S 11 := el_in (j := 11) (by decide) (by decide)
theorem vo_12 (S : SS) : F7_valueOf S 12 = S 12 := el_in (j := 12) (by decide) (by decide)
theorem vo_13 (S : SS) : F7_valueOf S 13 = S 13 := el_in (j := 13) (by decide) (by decide)
theorem vo_14 (S : SS) : F7_valueOf S 14 = S 14 := el_in (j := 14) (by decide) (by decide)
theorem vo_15 (S : SS) : F7_valueOf S 15 = S 15 := el_in (j := 15) (by decide) (by decide)
theorem vo_16 (S : SS) : F7_valueOf S 16 = S 16 := el_in (j := 16) (by decide) (by decide)
section M
variable {N : Int} {E : Nat → Int64} {P : SP} {A : SA} {T : Int32} {f : Nat → Int64} {S : SS} {W : SW} {K : SK} {c : Int32}
theorem rg_7 (h : rd N E P A T f) : ∀ j, j < 4 → f (82 + j) = E j := h.1
theorem rg_8 (h : rd N E P A T f) : f 86 = P.1.toInt64 := h.2.1
theorem rg_9 (h : rd N E P A T f) : f 87 = P.2.1.toInt64 := h.2.2.1
theorem rg_10 (h : rd N E P A T f) : f 88 = P.2.2.1.toInt64 := h.2.2.2.1
theorem rg_11 (h : rd N E P A T f) : f 89 = P.2.2.2.2.1.toInt64 := h.2.2.2.2.1
theorem rg_12 (h : rd N E P A T f) : f 91 = T.toInt64 := h.2.2.2.2.2.1
theorem rg_13 (h : rd N E P A T f) : f 92 = A.2.1.toInt64 := h.2.2.2.2.2.2.1
theorem rg_14 (h : rd N E P A T f) : ∀ j, j < 12 → f (93 + j) = (A.1 j).toInt64 := h.2.2.2.2.2.2.2.1
theorem rg_15 (h : rd N E P A T f) : f 105 = A.2.2.1.toInt64 := h.2.2.2.2.2.2.2.2.1
theorem rg_16 (h : rd N E P A T f) : f 106 = A.2.2.2.1.toInt64 := h.2.2.2.2.2.2.2.2.2.1
theorem rg_17 (h : rd N E P A T f) : f 107 = A.2.2.2.2.1 := h.2.2.2.2.2.2.2.2.2.2.1
theorem rg_18 (h : rd N E P A T f) : f 108 = A.2.2.2.2.2.1 := h.2.2.2.2.2.2.2.2.2.2.2.1
theorem rg_19 (h : rd N E P A T f) : f 109 = A.2.2.2.2.2.2.1 := h.2.2.2.2.2.2.2.2.2.2.2.2.1
theorem rg_20 (h : rd N E P A T f) : f 110 = A.2.2.2.2.2.2.2.1 := h.2.2.2.2.2.2.2.2.2.2.2.2.2.1
theorem rg_21 (h : rd N E P A T f) : f 111 = A.2.2.2.2.2.2.2.2.1 := h.2.2.2.2.2.2.2.2.2.2.2.2.2.2.1
theorem rg_22 (h : rd N E P A T f) : f 112 = A.2.2.2.2.2.2.2.2.2.1 := h.2.2.2.2.2.2.2.2.2.2.2.2.2.2.2.1
theorem rg_23 (h : rd N E P A T f) : f 113 = A.2.2.2.2.2.2.2.2.2.2 := h.2.2.2.2.2.2.2.2.2.2.2.2.2.2.2.2.1
theorem rg_24 (h : rd N E P A T f) : ∀ j, j < 60 → f (114 + j) = (P.2.2.2.2.2.2 j).toInt64 := h.2.2.2.2.2.2.2.2.2.2.2.2.2.2.2.2.2.1
theorem rg_25 (h : rd N E P A T f) : f 86 = 2 → f 91 - f 90 = P.2.2.2.1.toInt64 := h.2.2.2.2.2.2.2.2.2.2.2.2.2.2.2.2.2.2.1
theorem rg_26 (h : rd N E P A T f) : bP N P := h.2.2.2.2.2.2.2.2.2.2.2.2.2.2.2.2.2.2.2.1
theorem rg_27 (h : rd N E P A T f) : bA N A := h.2.2.2.2.2.2.2.2.2.2.2.2.2.2.2.2.2.2.2.2
theorem mn_A (x0 : MoN) (h : rd N E P A T f) (hN : 0 ≤ N) {s : Int32} (hs : f 11 = s.toInt64) : rd N E (F6_endDefrosting P s) A T (B11_minute_52 x0 f) := by
  have h25 := rg_25 h
  have e1 : F11_set1 f 11 = s.toInt64 := hs
  have hm : f 86 = 2 ↔ P.1 = 2 := mn_c (rg_8 h) (by decide)
  unfold F6_endDefrosting B11_minute_52
  by_cases c1 : P.1 = 2
  · have c2 : f 86 = 2 := hm.mpr c1
    rw [if_pos c1, if_pos c2]
    by_cases c3 : P.2.2.2.1 < s
    · rw [if_pos c3, if_pos (by rw [h25 c2, e1]; exact Int32.toInt64_lt.mpr c3)]
      exact h
    · rw [if_neg c3, if_neg (by rw [h25 c2, e1, Int32.toInt64_lt]; exact c3)]
      exact rd_89 (rd_86 h (x := 1) (by decide) ⟨by decide, by decide⟩ (fun hm => absurd hm (by decide))) (x := 0) (by decide) (cb_0 hN)
  · rw [if_neg c1, if_neg (fun e => c1 (hm.mp e))]
    exact h
/-- which rule -/
theorem mn_B (x0 : MoN) (hs : rs S W K c f) (h : rd N E P A T f) {C : SC} {tg is : Int64} (ht : C.2.2.2.2.toInt64 = tg) (hi : is = C.2.1.toInt64) (hb : -2000000 ≤ C.2.2.2.2.toInt ∧ C.2.2.2.2.toInt ≤ 2000000) : F6_decide P S (E, c) C = F11_rule x0 f tg is := by
  obtain ⟨h1, -, -, -, -, h6, hbS, -, -, h10⟩ := hs
  have w0 : F1_temperatureOf (E, c) 0 = F11_warmth f 0 := wrm_e (k := 0) (rg_7 h) h6 h10 (by omega)
  have w3 : F1_temperatureOf (E, c) 3 = F11_warmth f 3 := wrm_e (k := 3) (rg_7 h) h6 h10 (by omega)
  have e0 : F11_set1 f 0 = (S 0).toInt64 := h1 0 (by omega)
  have e1 : F11_set1 f 1 = (S 1).toInt64 := h1 1 (by omega)
  have e2 : F11_set1 f 2 = (S 2).toInt64 := h1 2 (by omega)
  have e3 : F11_set1 f 3 = (S 3).toInt64 := h1 3 (by omega)
  have e4 : F11_set1 f 4 = (S 4).toInt64 := h1 4 (by omega)
  have e6 : F11_set1 f 6 = (S 6).toInt64 := h1 6 (by omega)
  have e10 : F11_set1 f 10 = (S 10).toInt64 := h1 10 (by omega)
  have b3 := hbS 3 (by omega)
  have t1 : tg + (S 3).toInt64 = (C.2.2.2.2 + S 3).toInt64 := by
    rw [← ht]
    exact ad_64 (by omega) (by omega)
  have t2 : tg - (S 3).toInt64 = (C.2.2.2.2 - S 3).toInt64 := by
    rw [← ht]
    exact sb_64 (by omega) (by omega)
  have hm2 : (f 86 = 2) = (P.1 = 2) := propext (mn_c (rg_8 h) (by decide))
  have hm1 : (f 86 = 1) = (P.1 = 1) := propext (mn_c (rg_8 h) (by decide))
  have hm3 : (is = 2) = (C.2.1 = 2) := propext (mn_c hi (by decide))
  have r9 := rg_9 h
  have r10 := rg_10 h
  have r11 := rg_11 h
  have rs := sla_e x0 h
  unfold F6_decide F11_rule F6_decideWhileOn F6_decideWhileNeeded F11_ruleOn F11_ruleOff
  simp only [vo_0, vo_1, vo_2, vo_3, vo_4, vo_6, vo_10, w0, w3, e0, e1, e2, e3, e4, e6, e10, t1, t2, hm1, hm2, hm3, r9, r10, r11, ← rs, Int32.toInt64_lt, Int32.toInt64_le]
  generalize F11_warmth f 0 = v0
  generalize F11_warmth f 3 = v3
  by_cases a1 : P.1 = 2
  · rw [if_pos a1, if_pos a1]
  · rw [if_neg a1, if_neg a1]
    by_cases a2 : P.1 = 1
    · rw [if_pos a2, if_pos a2]
      by_cases a3 : v3 < (S 4).toInt64 <;> by_cases a4 : S 0 ≤ P.2.1 <;> by_cases a5 : v0 < (C.2.2.2.2 + S 3).toInt64 <;> by_cases a6 : P.2.2.2.2.1 < S 10 <;>
        simp only [a3, a4, a5, a6, decide_true, decide_false, Bool.not_true, Bool.not_false, Bool.false_eq_true, if_true, if_false, reduceIte]
    · rw [if_neg a2, if_neg a2]
      by_cases a3 : v0 < (C.2.2.2.2 - S 3).toInt64
      · rw [if_pos a3, if_pos a3]
        by_cases a4 : v3 < (S 4).toInt64 <;> by_cases a5 : S 1 ≤ P.2.2.1 <;> by_cases a6 : P.2.2.2.2.2.1 < S 2 <;> by_cases a7 : C.2.1 = 2 <;> by_cases a8 : v0 < (S 6).toInt64 <;>
          simp only [a4, a5, a6, a7, a8, decide_true, decide_false, Bool.not_true, Bool.not_false, Bool.false_eq_true, if_true, if_false, reduceIte]
      · rw [if_neg a3, if_neg a3]
theorem mn_60 {x : Int64} (hx : x = T.toInt64) (h : 0 ≤ T.toInt) : T - T / 60 * 60 = nI (nT x % 60) := by
  obtain ⟨k, hk, rfl⟩ := nI_of (w_i0 h)
  have e : nT x = k := by
    unfold nT
    rw [hx, Int32.toInt_toInt64, nI_toInt hk]
    rfl
  rw [e, show (60 : Int32) = nI 60 from rfl, pk_rem hk (by decide) (by decide)]
theorem mn_24 {x : Int64} (hx : x = T.toInt64) (h : 0 ≤ T.toInt) : T / 60 - T / 60 / 24 * 24 = nI (nT x / 60 % 24) := by
  obtain ⟨k, hk, rfl⟩ := nI_of (w_i0 h)
  have e : nT x = k := by
    unfold nT
    rw [hx, Int32.toInt_toInt64, nI_toInt hk]
    rfl
  rw [e, show (60 : Int32) = nI 60 from rfl, show (24 : Int32) = nI 24 from rfl, pk_div hk (by decide) (by decide), pk_rem (Nat.lt_of_le_of_lt (Nat.div_le_self _ _) hk) (by decide) (by decide)]
/-- what the rule does -/
theorem mn_C (h : rd N E P A T f) (hT : 0 ≤ T.toInt) (hN0 : 0 ≤ N) (hN : N < 2000000000) {r : Nat} (hr : r < 12) : rd (N + 1) E (F6_noteStart (F6_obey P (nI r)) T (bI (decide (nI r = (11 : Int32))))) (F0_countMinute A (nI r)) T (F11_decides f r) := by
  have q := mn_60 (rg_12 h) hT
  have hj : nT (f 91) % 60 < 60 := Nat.mod_lt _ (by omega)
  have h0 := rd_m h (show N ≤ N + 1 by omega)
  have i1 : (nI r = (1 : Int32)) = (r = 1) := c_eq (b := 1) (by omega) (by decide)
  have i3 : (nI r = (3 : Int32)) = (r = 3) := c_eq (b := 3) (by omega) (by decide)
  have i4 : (nI r = (4 : Int32)) = (r = 4) := c_eq (b := 4) (by omega) (by decide)
  have i11 : (nI r = (11 : Int32)) = (r = 11) := c_eq (b := 11) (by omega) (by decide)
  have k93 := cb_1 ((rg_27 h).1 r hr) hN
  have k105 := cb_1 (rg_27 h).2.1 hN
  have k106 := cb_1 (rg_27 h).2.2 hN
  have v93 : f (93 + r) + 1 = (A.1 r + 1).toInt64 := by rw [k93.2, rg_14 h r hr]
  have v105 : f 105 + 1 = (A.2.2.1 + 1).toInt64 := by rw [k105.2, rg_15 h]
  have v106 : f 106 + 1 = (A.2.2.2.1 + 1).toInt64 := by rw [k106.2, rg_16 h]
  have v114 : (if r = 11 then (1 : Int64) else 0) = (bI (decide (r = 11))).toInt64 := by
    by_cases e : r = 11
    · rw [if_pos e, decide_eq_true e]
      decide
    · rw [if_neg e, decide_eq_false e]
      decide
  unfold F11_decides F6_noteStart K6_noteStart_1 F0_countMinute K0_countMinute_1 F6_obey
  rw [q, rp_in hj (by decide), el_in hj (by decide), rp_in hr (by decide), el_in hr (by decide)]
  simp only [i1, i3, i4, i11]
  have hx : f 91 = vp_updL (vp_updL (vp_updL f 92 (nI r).toInt64) (93 + r) (f (93 + r) + 1)) (114 + nT (f 91) % 60) (if r = 11 then (1 : Int64) else 0) 91 := by
    rw [w_ro (by omega), w_ro (by omega), w_ro (by omega)]
  generalize nT (f 91) % 60 = j at hj hx ⊢
  have h3 := rd_114 (rd_93 (rd_92 h0 (x := nI r) rfl) hr v93 k93.1) hj v114
  by_cases r1 : r = 1
  · simp only [if_pos r1, if_neg (show ¬ r = 11 by omega), if_neg (show ¬ r = 4 by omega)] at h3 ⊢
    exact rd_88 (rd_86 h3 (x := 0) (by decide) ⟨by decide, by decide⟩ (fun e => absurd e (by decide))) (x := 0) (by decide) (cb_0 (by omega))
  · by_cases r3 : r = 3
    · simp only [if_neg r1, if_pos r3, if_neg (show ¬ r = 11 by omega), if_neg (show ¬ r = 4 by omega)] at h3 ⊢
      exact rd_88 (rd_86 h3 (x := 0) (by decide) ⟨by decide, by decide⟩ (fun e => absurd e (by decide))) (x := 0) (by decide) (cb_0 (by omega))
    · by_cases r4 : r = 4
      · simp only [if_neg r1, if_neg r3, if_pos r4, if_neg (show ¬ r = 11 by omega)] at h3 hx ⊢
        refine rd_106 (rd_90 h3 hx (by omega)) v106 k106.1
      · by_cases r11 : r = 11
        · simp only [if_neg r1, if_neg r3, if_neg r4, if_pos r11] at h3 ⊢
          exact rd_105 (rd_87 (rd_86 h3 (x := 1) (by decide) ⟨by decide, by decide⟩ (fun e => absurd e (by decide))) (x := 0) (by decide) (cb_0 (by omega))) v105 k105.1
        · simp only [if_neg r1, if_neg r3, if_neg r4, if_neg r11] at h3 ⊢
          exact h3

/-- what is made, and what it takes -/
def cH (S : SS) (C : SC) : Int64 := if ((F7_valueOf S (7 : Int32)).toInt64 + (F10_div (((F7_valueOf S (8 : Int32)) * C.1).toInt64) (10 : Int64))) < (500 : Int64) then (500 : Int64) else ((F7_valueOf S (7 : Int32)).toInt64 + (F10_div (((F7_valueOf S (8 : Int32)) * C.1).toInt64) (10 : Int64)))
def cZ (B : SB) (C : SC) : Int64 := ((350 : Int64) + ((5 : Int64) * (F10_div (C.1.toInt64) (10 : Int64)))) - ((4 : Int64) * (F10_div ((F1_temperatureOf B (3 : Int32)) - (300 : Int64)) (10 : Int64)))
def cY (B : SB) (C : SC) : Int64 := if (if cZ B C < (700 : Int64) then cZ B C else (700 : Int64)) < (100 : Int64) then (100 : Int64) else (if cZ B C < (700 : Int64) then cZ B C else (700 : Int64))
def cEl (S : SS) (B : SB) (C : SC) : Int64 := F10_div (((cH S C * (100 : Int64)) + cY B C) - (1 : Int64)) (cY B C)
theorem add_e (E : Nat → Int64) (c : Int32) (H : Int64) : F1_add (E, c) 3 H = (vp_updL E 3 (E 3 + H), c) := by
  unfold F1_add
  rw [if_neg (show ¬ (3 : Int32) < 0 by decide), if_neg (show ¬ (4 : Int32) ≤ 3 by decide)]
  rfl
theorem p2_e (u z1 : PlS) (z2 : SB) : K5_produce_2 u z1 z2 = (if (F7_valueOf (pS z1) (9 : Int32)) ≤ (pC u).1 then ((pS z1), (pW z1), (pK z1), z2, (pP z1), ((pA z1).1, (pA z1).2.1, (pA z1).2.2.1, (pA z1).2.2.2.1, ((pA z1).2.2.2.2.1 + cH (pS u) (pC u)), (pA z1).2.2.2.2.2.1, (pA z1).2.2.2.2.2.2.1, (pA z1).2.2.2.2.2.2.2.1, (pA z1).2.2.2.2.2.2.2.2.1, (pA z1).2.2.2.2.2.2.2.2.2.1, (pA z1).2.2.2.2.2.2.2.2.2.2), (pC z1), (pT z1)) else ((pS z1), (pW z1), (pK z1), z2, ((pP z1).1, (pP z1).2.1, (pP z1).2.2.1, (pP z1).2.2.2.1, ((pP z1).2.2.2.2.1 + (1 : Int32)), (pP z1).2.2.2.2.2.1, (pP z1).2.2.2.2.2.2), ((pA z1).1, (pA z1).2.1, (pA z1).2.2.1, (pA z1).2.2.2.1, ((pA z1).2.2.2.2.1 + cH (pS u) (pC u)), (pA z1).2.2.2.2.2.1, (pA z1).2.2.2.2.2.2.1, (pA z1).2.2.2.2.2.2.2.1, (pA z1).2.2.2.2.2.2.2.2.1, (pA z1).2.2.2.2.2.2.2.2.2.1, (pA z1).2.2.2.2.2.2.2.2.2.2), (pC z1), (pT z1))) := rfl
theorem produce_e (C : SC) : F5_produce (S, W, K, (E, c), P, A, C, T) = (if F7_valueOf S 9 ≤ C.1 then (S, W, K, (vp_updL E 3 (E 3 + cH S C), c), P, (A.1, A.2.1, A.2.2.1, A.2.2.2.1, A.2.2.2.2.1 + cH S C, A.2.2.2.2.2.1, A.2.2.2.2.2.2.1, A.2.2.2.2.2.2.2.1, A.2.2.2.2.2.2.2.2.1, A.2.2.2.2.2.2.2.2.2.1 + cEl S (E, c) C, A.2.2.2.2.2.2.2.2.2.2 + cEl S (E, c) C * C.2.2.1.toInt64), C, T) else (S, W, K, (vp_updL E 3 (E 3 + cH S C), c), (P.1, P.2.1, P.2.2.1, P.2.2.2.1, P.2.2.2.2.1 + 1, P.2.2.2.2.2), (A.1, A.2.1, A.2.2.1, A.2.2.2.1, A.2.2.2.2.1 + cH S C, A.2.2.2.2.2.1, A.2.2.2.2.2.2.1, A.2.2.2.2.2.2.2.1, A.2.2.2.2.2.2.2.2.1, A.2.2.2.2.2.2.2.2.2.1 + cEl S (E, c) C, A.2.2.2.2.2.2.2.2.2.2 + cEl S (E, c) C * C.2.2.1.toInt64), C, T)) := by
  show K5_produce_2 (S, W, K, (E, c), P, A, C, T) (F5_use (S, W, K, (E, c), P, A, C, T) (cEl S (E, c) C)) (F1_add (E, c) 3 (cH S C)) = _
  rw [add_e, p2_e]
  have hz : F5_use (S, W, K, (E, c), P, A, C, T) (cEl S (E, c) C) = (S, W, K, (E, c), P, (A.1, A.2.1, A.2.2.1, A.2.2.2.1, A.2.2.2.2.1, A.2.2.2.2.2.1, A.2.2.2.2.2.2.1, A.2.2.2.2.2.2.2.1, A.2.2.2.2.2.2.2.2.1, A.2.2.2.2.2.2.2.2.2.1 + cEl S (E, c) C, A.2.2.2.2.2.2.2.2.2.2 + cEl S (E, c) C * C.2.2.1.toInt64), C, T) := rfl
  rw [hz]
theorem cH_b (hb : bS S) {C : SC} (hx : -300 ≤ C.1.toInt ∧ C.1.toInt ≤ 400) : F11_div ((S 8).toInt64 * C.1.toInt64) 10 = F10_div ((S 8 * C.1).toInt64) 10 ∧ 500 ≤ (cH S C).toInt ∧ (cH S C).toInt ≤ 9000000 := by
  have b8 := hb 8 (by omega)
  have b7 := hb 7 (by omega)
  have b1 := ar_mul (a := (S 8).toInt) (b := C.1.toInt) (A := 20000) (B := 400) (by omega) (by omega) (by omega) (by omega)
  have e1 : (S 8 * C.1).toInt = (S 8).toInt * C.1.toInt := ar_m32 (by omega) (by omega)
  have e2 : F11_div ((S 8).toInt64 * C.1.toInt64) 10 = F10_div ((S 8 * C.1).toInt64) 10 := by
    rw [ml_64 (by omega) (by omega), div_e (by decide)]
  refine ⟨e2, ?_⟩
  have e3 : (F10_div ((S 8 * C.1).toInt64) 10).toInt = (S 8).toInt * C.1.toInt / 10 := by
    rw [div_e (by decide), ar_div (by decide), Int32.toInt_toInt64, e1]
    rfl
  have b2 := ar_dv (b := 10) b1.1 b1.2
  have e4 : ((S 7).toInt64 + F10_div ((S 8 * C.1).toInt64) 10).toInt = (S 7).toInt + (S 8).toInt * C.1.toInt / 10 := by
    rw [ar_a64, e3, Int32.toInt_toInt64] <;> rw [e3, Int32.toInt_toInt64] <;> omega
  unfold cH
  rw [vo_7, vo_8]
  split
  · rw [show (500 : Int64).toInt = 500 from by decide]
    omega
  · rename_i h
    rw [w_ltL, e4, show (500 : Int64).toInt = 500 from by decide] at h
    rw [e4]
    omega
theorem cY_e (B : SB) (C : SC) : cY B C = (if (100 : Int64) ≤ cZ B C then (if cZ B C ≤ (700 : Int64) then cZ B C else (700 : Int64)) else (100 : Int64)) ∧ 100 ≤ (cY B C).toInt ∧ (cY B C).toInt ≤ 700 := by
  unfold cY
  generalize cZ B C = z
  have h1 : (100 : Int64).toInt = 100 := by decide
  have h7 : (700 : Int64).toInt = 700 := by decide
  rw [mi_e]
  by_cases a : z ≤ (700 : Int64)
  · rw [if_pos a]
    rw [w_leL, h7] at a
    rw [mx_e]
    refine ⟨rfl, ?_⟩
    split
    · rename_i b
      rw [w_leL, h1] at b
      omega
    · rw [h1]
      omega
  · rw [if_neg a, if_neg (show ¬ (700 : Int64) < 100 by decide)]
    rw [w_leL, h7] at a
    rw [if_pos (show (100 : Int64) ≤ z by rw [w_leL, h1]; omega), h7]
    exact ⟨rfl, by omega, by omega⟩
theorem mn_P (x0 : MoN) (hs : rs S W K c f) (h : rd N E P A T f) {C : SC} {x is : Int64} (hx : C.1.toInt64 = x) (hb : -300 ≤ C.1.toInt ∧ C.1.toInt ≤ 400) : K11_produces_1 x0 f x is (B11_produces_94 x0 f x is) = vp_updL (vp_updL (vp_updL (vp_updL (vp_updL f 85 (f 85 + cH S C)) 107 (f 107 + cH S C)) 89 (f 89 + (if S 9 ≤ C.1 then (0 : Int64) else 1))) 112 (f 112 + cEl S (E, c) C)) 113 (f 113 + cEl S (E, c) C * f (65 + nT is)) := by
  obtain ⟨h1, -, -, -, -, h6, hbS, -, -, h10⟩ := hs
  have w3 : F1_temperatureOf (E, c) 3 = F11_warmth f 3 := wrm_e (k := 3) (rg_7 h) h6 h10 (by omega)
  obtain ⟨g1, g2, g3⟩ := cH_b hbS hb
  obtain ⟨y1, y2, y3⟩ := cY_e (E, c) C
  have e7 : F11_set1 f 7 = (S 7).toInt64 := h1 7 (by omega)
  have e8 : F11_set1 f 8 = (S 8).toInt64 := h1 8 (by omega)
  have eH : (if (500 : Int64) ≤ ((F11_set1 f 7) + (F11_div ((F11_set1 f 8) * x) (10 : Int64))) then ((F11_set1 f 7) + (F11_div ((F11_set1 f 8) * x) (10 : Int64))) else (500 : Int64)) = cH S C := by
    rw [e7, e8, ← hx, g1, ← mx_e]
    unfold cH
    rw [vo_7, vo_8]
  have eZ : cZ (E, c) C = (((350 : Int64) + ((5 : Int64) * (F11_div x (10 : Int64)))) - ((4 : Int64) * (F11_div ((F11_warmth f 3) - (300 : Int64)) (10 : Int64)))) := by
    unfold cZ
    rw [w3, div_e (by decide), div_e (by decide), hx]
  have eY : B11_produces_94 x0 f x is = cY (E, c) C := by
    rw [y1, eZ]
    rfl
  have eE : cEl S (E, c) C = (cH S C * (100 : Int64) + cY (E, c) C - (1 : Int64)) / cY (E, c) C := by
    unfold cEl
    refine dv_p (by omega) ?_
    have m1 : (cH S C * (100 : Int64)).toInt = (cH S C).toInt * 100 := by
      rw [ar_m64 (by rw [show (100 : Int64).toInt = 100 from by decide]; omega) (by rw [show (100 : Int64).toInt = 100 from by decide]; omega), show (100 : Int64).toInt = 100 from by decide]
    have m2 : (cH S C * (100 : Int64) + cY (E, c) C).toInt = (cH S C).toInt * 100 + (cY (E, c) C).toInt := by
      rw [ar_a64 (by rw [m1]; omega) (by rw [m1]; omega), m1]
    rw [ar_s64 (by rw [m2, show (1 : Int64).toInt = 1 from by decide]; omega) (by rw [m2, show (1 : Int64).toInt = 1 from by decide]; omega), m2, show (1 : Int64).toInt = 1 from by decide]
    omega
  have e9 : (F11_set1 (vp_updL (vp_updL f 85 (f 85 + cH S C)) 107 (f 107 + cH S C)) 9 ≤ x) = (S 9 ≤ C.1) := by
    have : F11_set1 (vp_updL (vp_updL f 85 (f 85 + cH S C)) 107 (f 107 + cH S C)) 9 = (S 9).toInt64 := h1 9 (by omega)
    rw [this, ← hx]
    exact propext Int32.toInt64_le
  unfold K11_produces_1
  simp only [eH, eY, ← eE, e9]
theorem defrost_e (C : SC) : F5_defrost (S, W, K, (E, c), P, A, C, T) = (S, W, K, (vp_updL E 3 (E 3 + (-(F7_valueOf S 12)).toInt64), c), P, (A.1, A.2.1, A.2.2.1, A.2.2.2.1, A.2.2.2.2.1, A.2.2.2.2.2.1 + (F7_valueOf S 12).toInt64, A.2.2.2.2.2.2.1, A.2.2.2.2.2.2.2.1, A.2.2.2.2.2.2.2.2.1, A.2.2.2.2.2.2.2.2.2.1 + 200, A.2.2.2.2.2.2.2.2.2.2 + 200 * C.2.2.1.toInt64), C, T) := by
  show K5_defrost_1 (S, W, K, (E, c), P, A, C, T) (F1_add (E, c) 3 ((-(F7_valueOf S 12)).toInt64)) = _
  rw [add_e]
  rfl
theorem mn_D (x0 : MoN) (hs : rs S W K c f) (h : rd N E P A T f) (hN : N < 2000000000) {C : SC} {x is : Int64} (hx : C.1.toInt64 = x) (hb : -300 ≤ C.1.toInt ∧ C.1.toInt ≤ 400) (hp : f (65 + nT is) = C.2.2.1.toInt64) :
    ∃ E' P' A', (if P.1 = (1 : Int32) then F5_produce (S, W, K, (E, c), P, A, C, T) else (if P.1 = (2 : Int32) then F5_defrost (S, W, K, (E, c), P, A, C, T) else (S, W, K, (E, c), P, A, C, T))) = (S, W, K, (E', c), P', A', C, T) ∧ rd (N + 1) E' P' A' T (F11_produces x0 f x is) := by
  have h0 := rd_m h (show N ≤ N + 1 by omega)
  have hm2 : f 86 = 2 ↔ P.1 = 2 := mn_c (rg_8 h) (by decide)
  have hm1 : f 86 = 1 ↔ P.1 = 1 := mn_c (rg_8 h) (by decide)
  have r85 : f 85 = E 3 := rg_7 h 3 (by omega)
  have k89 := cb_1 (rg_26 h).2.2.2.2.1 hN
  unfold F11_produces
  by_cases a1 : P.1 = 1
  · rw [if_pos a1, if_pos (hm1.mpr a1), mn_P x0 hs h hx hb, produce_e, vo_9, hp]
    have g1 := rd_107 (rd_82 h0 (k := 3) (v := f 85 + cH S C) (by omega)) (x := A.2.2.2.2.1 + cH S C) (v := f 107 + cH S C) (by rw [rg_17 h])
    rw [r85] at g1 ⊢
    by_cases a2 : S 9 ≤ C.1
    · rw [if_pos a2, if_pos a2]
      refine ⟨_, _, _, rfl, ?_⟩
      have g2 := rd_89 g1 (x := P.2.2.2.2.1) (v := f 89 + 0) (by rw [rg_11 h, Int64.add_zero]) (rg_26 h0).2.2.2.2.1
      have g3 := rd_112 g2 (x := A.2.2.2.2.2.2.2.2.2.1 + cEl S (E, c) C) (v := f 112 + cEl S (E, c) C) (by rw [rg_22 h])
      have g4 := rd_113 g3 (x := A.2.2.2.2.2.2.2.2.2.2 + cEl S (E, c) C * C.2.2.1.toInt64) (v := f 113 + cEl S (E, c) C * C.2.2.1.toInt64) (by rw [rg_23 h])
      exact g4
    · rw [if_neg a2, if_neg a2]
      refine ⟨_, _, _, rfl, ?_⟩
      have g2 := rd_89 g1 (x := P.2.2.2.2.1 + 1) (v := f 89 + 1) (by rw [k89.2, rg_11 h]) k89.1
      have g3 := rd_112 g2 (x := A.2.2.2.2.2.2.2.2.2.1 + cEl S (E, c) C) (v := f 112 + cEl S (E, c) C) (by rw [rg_22 h])
      have g4 := rd_113 g3 (x := A.2.2.2.2.2.2.2.2.2.2 + cEl S (E, c) C * C.2.2.1.toInt64) (v := f 113 + cEl S (E, c) C * C.2.2.1.toInt64) (by rw [rg_23 h])
      exact g4
  · rw [if_neg a1, if_neg (fun e => a1 (hm1.mp e))]
    by_cases a2 : P.1 = 2
    · rw [if_pos a2, if_pos (hm2.mpr a2), defrost_e, vo_12, hp]
      have b12 := hs.2.2.2.2.2.2.1 12 (by omega)
      have e12 : F11_set1 f 12 = (S 12).toInt64 := hs.1 12 (by omega)
      have e12' : F11_set1 (vp_updL f 85 (f 85 - F11_set1 f 12)) 12 = (S 12).toInt64 := hs.1 12 (by omega)
      rw [e12', e12, r85, ng_64 (by omega), ← Int64.sub_eq_add_neg]
      refine ⟨_, _, _, rfl, ?_⟩
      have g1 := rd_82 h0 (k := 3) (v := E 3 - (S 12).toInt64) (by omega)
      have g2 := rd_108 g1 (x := A.2.2.2.2.2.1 + (S 12).toInt64) (v := f 108 + (S 12).toInt64) (by rw [rg_18 h])
      have g3 := rd_112 g2 (x := A.2.2.2.2.2.2.2.2.2.1 + 200) (v := f 112 + 200) (by rw [rg_22 h])
      have g4 := rd_113 g3 (x := A.2.2.2.2.2.2.2.2.2.2 + 200 * C.2.2.1.toInt64) (v := f 113 + 200 * C.2.2.1.toInt64) (by rw [rg_23 h])
      exact g4
    · rw [if_neg a2, if_neg (fun e => a2 (hm2.mp e))]
      refine ⟨_, _, _, rfl, ?_⟩
      have g3 := rd_112 h0 (x := A.2.2.2.2.2.2.2.2.2.1) (v := f 112 + 0) (by rw [rg_22 h, Int64.add_zero])
      have g4 := rd_113 g3 (x := A.2.2.2.2.2.2.2.2.2.2) (v := f 113 + 0 * f (65 + nT is)) (by rw [rg_23 h, Int64.zero_mul, Int64.add_zero])
      exact g4
/-- what is drawn -/
theorem mn_E (hs : rs S W K c f) (h : rd N E P A T f) (d : Int64) : ∃ E', F1_draw (E, c) d = ((F1_draw (E, c) d).1, (E', c)) ∧ rd N E' P (A.1, A.2.1, A.2.2.1, A.2.2.2.1, A.2.2.2.2.1, A.2.2.2.2.2.1, A.2.2.2.2.2.2.1 + (F1_draw (E, c) d).1, A.2.2.2.2.2.2.2.1 + (d - (F1_draw (E, c) d).1), A.2.2.2.2.2.2.2.2) T (F11_draws f d) := by
  have r82 : f 82 = E 0 := rg_7 h 0 (by omega)
  have r81 : f 81 = c.toInt64 := hs.2.2.2.2.2.1
  refine ⟨vp_updL E 0 (E 0 - (F1_draw (E, c) d).1), rfl, ?_⟩
  have e : (F1_draw (E, c) d).1 = (if (0 : Int64) ≤ (if ((f 82) - ((200 : Int64) * (f 81))) ≤ d then ((f 82) - ((200 : Int64) * (f 81))) else d) then (if ((f 82) - ((200 : Int64) * (f 81))) ≤ d then ((f 82) - ((200 : Int64) * (f 81))) else d) else (0 : Int64)) := by
    rw [r82, r81, ← mi_e, ← mx_e]
    rfl
  unfold F11_draws
  rw [← e, r82]
  generalize (F1_draw (E, c) d).1 = z
  have g1 := rd_82 h (k := 0) (v := E 0 - z) (by omega)
  have g2 := rd_109 g1 (x := A.2.2.2.2.2.2.1 + z) (v := f 109 + z) (by rw [rg_19 h])
  have g3 := rd_110 g2 (x := A.2.2.2.2.2.2.2.1 + (d - z)) (v := f 110 + (d - z)) (by rw [rg_20 h])
  exact g3
/-! layers -/
def rE (E : Nat → Int64) (L : Int64) (f0 f : Nat → Int64) : Prop := (∀ j, j < 4 → f (82 + j) = E j) ∧ f 111 = L ∧ ∀ j, ¬ (82 ≤ j ∧ j < 86) → j ≠ 111 → f j = f0 j
theorem rE_s {L : Int64} {f0 : Nat → Int64} (h : rE E L f0 f) {k : Nat} (hk : k < 4) (v : Int64) : rE (vp_updL E k v) L f0 (vp_updL f (82 + k) v) := by
  obtain ⟨h1, h2, h3⟩ := h
  refine ⟨fun j hj => ?_, (w_ro (by omega)).trans h2, fun j a b => (w_ro (by omega)).trans (h3 j a b)⟩
  by_cases e : j = k
  · subst e
    exact (w_rds _ _ _).trans (w_rds _ _ _).symm
  · rw [w_ro (show 82 + j ≠ 82 + k by omega), w_ro e]
    exact h1 j hj
theorem rE_l {L L' : Int64} {f0 : Nat → Int64} (h : rE E L f0 f) (v : Int64) (hv : v = L') : rE E L' f0 (vp_updL f 111 v) := by
  obtain ⟨h1, h2, h3⟩ := h
  exact ⟨fun j hj => (w_ro (by omega)).trans (h1 j hj), (w_rds _ _ _).trans hv, fun j a b => (w_ro b).trans (h3 j a b)⟩
/-- all that a step with the layers needs to know of the rest -/
def rQ (c : Int32) (S : SS) (f0 : Nat → Int64) : Prop := f0 81 = c.toInt64 ∧ bB c ∧ f0 13 = (S 13).toInt64 ∧ f0 14 = (S 14).toInt64
theorem rE_w {L : Int64} {f0 : Nat → Int64} (hq : rQ c S f0) (h : rE E L f0 f) {k : Nat} (hk : k < 4) : F1_temperatureOf (E, c) (nI k) = F11_warmth f k := wrm_e h.1 ((h.2.2 81 (by omega) (by omega)).trans hq.1) hq.2.1 hk
theorem ls_l (x0 : MoN) (u : Nat → Int64) {L : Int64} {f0 : Nat → Int64} (hq : rQ c S f0) (E0 : Nat → Int64) : ∀ fu i E f a, i ≤ 4 → 4 - i < fu → rE E (L + a) f0 f → rE (L1_lose_5 (E0, c) (S 13) fu i E a).2.1 (L + (L1_lose_5 (E0, c) (S 13) fu i E a).2.2) f0 (L11_settles_2 x0 u fu i f).2 := by
  intro fu
  induction fu with
  | zero => intro i E f a _ h; exact absurd h (by omega)
  | succ fu ih =>
    intro i E f a h1 h2 h3
    unfold L1_lose_5 L11_settles_2
    by_cases c1 : 4 ≤ i
    · rw [if_pos c1, if_pos c1]
      exact h3
    · rw [if_neg c1, if_neg c1]
      have hw := rE_w hq h3 (k := i) (by omega)
      have e13 : F11_set1 f 13 = (S 13).toInt64 := (h3.2.2 13 (by omega) (by omega)).trans hq.2.2.1
      have eL : (if (F10_div (((F1_temperatureOf (E, c) (nI i)) - (200 : Int64)) * (S 13).toInt64) (10 : Int64)) < (0 : Int64) then (0 : Int64) else (F10_div (((F1_temperatureOf (E, c) (nI i)) - (200 : Int64)) * (S 13).toInt64) (10 : Int64))) = (if (0 : Int64) ≤ (F11_div (((F11_warmth f i) - (200 : Int64)) * (F11_set1 f 13)) (10 : Int64)) then (F11_div (((F11_warmth f i) - (200 : Int64)) * (F11_set1 f 13)) (10 : Int64)) else (0 : Int64)) := by
        rw [mx_e, hw, e13, div_e (by decide)]
      have eL' : (if (F10_div (((F1_temperatureOf (E, (E0, c).2) (nI i)) - (200 : Int64)) * (S 13).toInt64) (10 : Int64)) < (0 : Int64) then (0 : Int64) else (F10_div (((F1_temperatureOf (E, (E0, c).2) (nI i)) - (200 : Int64)) * (S 13).toInt64) (10 : Int64))) = (if (0 : Int64) ≤ (F11_div (((F11_warmth f i) - (200 : Int64)) * (F11_set1 f 13)) (10 : Int64)) then (F11_div (((F11_warmth f i) - (200 : Int64)) * (F11_set1 f 13)) (10 : Int64)) else (0 : Int64)) := eL
      rw [eL']
      generalize (if (0 : Int64) ≤ (F11_div (((F11_warmth f i) - (200 : Int64)) * (F11_set1 f 13)) (10 : Int64)) then (F11_div (((F11_warmth f i) - (200 : Int64)) * (F11_set1 f 13)) (10 : Int64)) else (0 : Int64)) = v
      have h4 := rE_l (rE_s h3 (k := i) (by omega) (E i - v)) (L + a + v) (Int64.add_assoc L a v)
      rw [h3.1 i (by omega), h3.2.1]
      exact ih (i + 1) _ _ _ (by omega) (by omega) h4
/-- two neighbours, the lower one warmer -/
theorem sw_e {L : Int64} {f0 : Nat → Int64} (hq : rQ c S f0) (h : rE E L f0 f) {k : Nat} (hk : k < 3) : rE (if F1_temperatureOf (E, c) (nI (k + 1)) ≤ F1_temperatureOf (E, c) (nI k) then E else vp_updL (vp_updL E (k + 1) (F10_div (E k + E (k + 1)) 2)) k (E k + E (k + 1) - F10_div (E k + E (k + 1)) 2)) L f0 (gSwap k f) := by
  unfold gSwap
  rw [rE_w hq h (show k < 4 by omega), rE_w hq h (show k + 1 < 4 by omega), h.1 k (by omega), h.1 (k + 1) (by omega), div_e (by decide)]
  by_cases c1 : F11_warmth f (k + 1) ≤ F11_warmth f k
  · rw [if_pos c1, if_pos c1]
    exact h
  · rw [if_neg c1, if_neg c1]
    exact rE_s (rE_s h (by omega) _) (by omega) _
theorem wm_b {L : Int64} {f0 : Nat → Int64} (hq : rQ c S f0) (h : rE E L f0 f) (k : Nat) : -93000000000000000 ≤ (F11_warmth f k).toInt ∧ (F11_warmth f k).toInt ≤ 93000000000000000 := by
  have h81 : f 81 = c.toInt64 := (h.2.2 81 (by omega) (by omega)).trans hq.1
  have hb := hq.2.1
  unfold F11_warmth
  have hp : (f 81).toInt = c.toInt := by rw [h81, Int32.toInt_toInt64]
  rw [ar_div (by rw [hp]; have := hb.1; omega), hp]
  have h1 := ar_lo (f (82 + k))
  have h2 := ar_hi (f (82 + k))
  generalize (f (82 + k)).toInt = e at h1 h2
  have h3 := hb.1
  have h4 := hb.2
  generalize c.toInt = q at h3 h4
  refine ⟨Int.le_ediv_of_mul_le (by omega) ?_, Int.ediv_le_of_le_mul (by omega) ?_⟩
  · have := Int.mul_le_mul_of_nonneg_left (show (100 : Int) ≤ q from h3) (show (0 : Int) ≤ 93000000000000000 by omega)
    rw [Int.neg_mul]
    omega
  · have := Int.mul_le_mul_of_nonneg_left (show (100 : Int) ≤ q from h3) (show (0 : Int) ≤ 93000000000000000 by omega)
    omega
theorem cd_l (x0 : MoN) (u : Nat → Int64) (a : Nat × (Nat → Int64)) (b1 b2 b3 : Nat → Int64) {L : Int64} {f0 : Nat → Int64} (hq : rQ c S f0) (E0 : Nat → Int64) : ∀ fu i E f, i ≤ 3 → 3 - i < fu → rE E L f0 f → rE (L1_conduct_2 (E0, c) (S 14) fu i E).2 L f0 (L11_settles_164 x0 u a b1 b2 b3 fu i f).2 := by
  intro fu
  induction fu with
  | zero => intro i E f _ h; exact absurd h (by omega)
  | succ fu ih =>
    intro i E f h1 h2 h3
    unfold L1_conduct_2 L11_settles_164
    by_cases c1 : 3 ≤ i
    · rw [if_pos c1, if_pos c1]
      exact h3
    · rw [if_neg c1, if_neg c1]
      have w1 := rE_w hq h3 (k := i) (by omega)
      have w2 := rE_w hq h3 (k := i + 1) (by omega)
      have p1 := wm_b hq h3 i
      have p2 := wm_b hq h3 (i + 1)
      have e14 : F11_set1 f 14 = (S 14).toInt64 := (h3.2.2 14 (by omega) (by omega)).trans hq.2.2.2
      have w1' : F1_temperatureOf (E, (E0, c).2) (nI i) = F11_warmth f i := w1
      have w2' : F1_temperatureOf (E, (E0, c).2) (nI i + 1) = F11_warmth f (i + 1) := by
        rw [nI_1]
        exact w2
      rw [w1', w2']
      have ec : (F11_warmth f i - F11_warmth f (i + 1) ≤ 0) ↔ (F11_warmth f i ≤ F11_warmth f (i + 1)) := by
        rw [w_leL, w_leL, ar_s64 (by omega) (by omega), show (0 : Int64).toInt = 0 from by decide]
        omega
      by_cases c2 : F11_warmth f i ≤ F11_warmth f (i + 1)
      · rw [if_pos c2, if_pos (ec.mpr c2)]
        exact ih (i + 1) _ _ (by omega) (by omega) h3
      · rw [if_neg c2, if_neg (fun e => c2 (ec.mp e)), e14, div_e (by decide)]
        generalize F11_div ((F11_warmth f i - F11_warmth f (i + 1)) * (S 14).toInt64) 10 = v
        rw [h3.1 i (by omega), show 82 + i + 1 = 82 + (i + 1) by omega, h3.1 (i + 1) (by omega), w_ro (show i + 1 ≠ i by omega)]
        exact ih (i + 1) _ _ (by omega) (by omega) (rE_s (rE_s h3 (by omega) _) (by omega) _)
theorem st_e (x0 : MoN) {L : Int64} {f0 : Nat → Int64} (hq : rQ c S f0) (h : rE E L f0 f) : (F1_conduct (F1_rise (F1_lose (E, c) (S 13)).2) (S 14)).2 = c ∧ rE (F1_conduct (F1_rise (F1_lose (E, c) (S 13)).2) (S 14)).1 (L + (F1_lose (E, c) (S 13)).1) f0 (F11_settles x0 f) := by
  rw [settles_e]
  have g1 := ls_l x0 f hq E 5 0 E f 0 (by omega) (by omega) (by rw [Int64.add_zero]; exact h)
  have eE : F1_lose (E, c) (S 13) = ((L1_lose_5 (E, c) (S 13) 5 0 E 0).2.2, ((L1_lose_5 (E, c) (S 13) 5 0 E 0).2.1, c)) := rfl
  rw [eE]
  generalize L1_lose_5 (E, c) (S 13) 5 0 E 0 = z at g1 ⊢
  generalize (L11_settles_2 x0 f 5 0 f).2 = f1 at g1 ⊢
  have g2 := sw_e hq g1 (k := 2) (by omega)
  have g3 := sw_e hq g2 (k := 1) (by omega)
  have g4 := sw_e hq g3 (k := 0) (by omega)
  have g5 := cd_l x0 f (0, f) f f f hq (F1_rise (z.2.1, c)).1 4 0 _ _ (by omega) (by omega) g4
  exact ⟨rfl, g5⟩
theorem mn_F (x0 : MoN) (hs : rs S W K c f) (h : rd N E P A T f) : (F1_conduct (F1_rise (F1_lose (E, c) (S 13)).2) (S 14)).2 = c ∧ rd N (F1_conduct (F1_rise (F1_lose (E, c) (S 13)).2) (S 14)).1 P (A.1, A.2.1, A.2.2.1, A.2.2.2.1, A.2.2.2.2.1, A.2.2.2.2.2.1, A.2.2.2.2.2.2.1, A.2.2.2.2.2.2.2.1, A.2.2.2.2.2.2.2.2.1 + (F1_lose (E, c) (S 13)).1, A.2.2.2.2.2.2.2.2.2) T (F11_settles x0 f) := by
  obtain ⟨h1, -, -, -, -, h6, -, -, -, h10⟩ := hs
  obtain ⟨e, g7, g111, ge⟩ := st_e x0 (E := E) (c := c) (S := S) (f0 := f) (f := f) (L := A.2.2.2.2.2.2.2.2.1) ⟨h6, h10, h1 13 (by omega), h1 14 (by omega)⟩ ⟨rg_7 h, rg_21 h, fun _ _ _ => rfl⟩
  refine ⟨e, ?_⟩
  generalize F11_settles x0 f = g at g7 g111 ge ⊢
  obtain ⟨h7, h8, h9, h10, h11, h12, h13, h14, h15, h16, h17, h18, h19, h20, h21, h22, h23, h24, h25, h26⟩ := h
  refine ⟨g7, (ge _ (by omega) (by omega)).trans h8, (ge _ (by omega) (by omega)).trans h9, (ge _ (by omega) (by omega)).trans h10, (ge _ (by omega) (by omega)).trans h11, (ge _ (by omega) (by omega)).trans h12, (ge _ (by omega) (by omega)).trans h13, fun j hj => (ge _ (by omega) (by omega)).trans (h14 j hj), (ge _ (by omega) (by omega)).trans h15, (ge _ (by omega) (by omega)).trans h16, (ge _ (by omega) (by omega)).trans h17, (ge _ (by omega) (by omega)).trans h18, (ge _ (by omega) (by omega)).trans h19, (ge _ (by omega) (by omega)).trans h20, g111, (ge _ (by omega) (by omega)).trans h22, (ge _ (by omega) (by omega)).trans h23, fun j hj => (ge _ (by omega) (by omega)).trans (h24 j hj), fun hm => ?_, h26⟩
  rw [ge 91 (by omega) (by omega), ge 90 (by omega) (by omega)]
  exact h25 ((ge 86 (by omega) (by omega)).symm.trans hm)
/-- the end of a minute -/
theorem mn_G (x0 : MoN) (h : rd N E P A T f) (hN : N < 2000000000) (hT : 0 ≤ T.toInt) (hT2 : T.toInt < 2000000000) (a1 a2 a3 a4 a5 : Nat → Int64) : rd (N + 1) E (F6_countMinute P) A (T + 1) (K11_minute_5 x0 a1 a2 a3 a4 a5 f) := by
  have h0 := rd_m h (show N ≤ N + 1 by omega)
  have hm2 : f 86 = 2 ↔ P.1 = 2 := mn_c (rg_8 h) (by decide)
  have hm0 : f 86 = 0 ↔ P.1 = 0 := mn_c (rg_8 h) (by decide)
  have k87 := cb_1 (rg_26 h).2.1 hN
  have k88 := cb_1 (rg_26 h).2.2.1 hN
  have kdm := cb_1 (rg_26 h).2.2.2.1 hN
  have kT := (cb_1 (N := 1999999999) (x := T) ⟨hT, by omega⟩ (by omega)).2
  have v91 : f 91 + 1 = (T + 1).toInt64 := by rw [kT, rg_12 h]
  unfold K11_minute_5 F6_countMinute
  by_cases c1 : P.1 = 0
  · have c2 : ¬ P.1 = 2 := by rw [c1]; decide
    rw [if_pos c1, if_neg c2, if_pos (hm0.mpr c1)]
    refine rd_91 (rd_88 h0 (x := P.2.2.1 + 1) (by rw [k88.2, rg_10 h]) k88.1) (d := P.2.2.2.1) v91 (rg_26 h0).2.2.2.1 (fun e => ?_)
    rw [w_ro (by omega)] at e
    exact absurd (hm2.mp e) c2
  · rw [if_neg c1, if_neg (fun e => c1 (hm0.mp e))]
    by_cases c2 : P.1 = 2
    · rw [if_pos c2]
      refine rd_91 (rd_87 h0 (x := P.2.1 + 1) (by rw [k87.2, rg_9 h]) k87.1) (d := P.2.2.2.1 + 1) v91 kdm.1 (fun _ => ?_)
      rw [w_ro (show 90 ≠ 87 by omega), kdm.2, ← rg_25 h (hm2.mpr c2), Int64.sub_eq_add_neg, Int64.sub_eq_add_neg, Int64.add_assoc, Int64.add_assoc, Int64.add_comm 1]
    · rw [if_neg c2]
      refine rd_91 (rd_87 h0 (x := P.2.1 + 1) (by rw [k87.2, rg_9 h]) k87.1) (d := P.2.2.2.1) v91 (rg_26 h0).2.2.2.1 (fun e => ?_)
      rw [w_ro (by omega)] at e
      exact absurd (hm2.mp e) c2
end M
