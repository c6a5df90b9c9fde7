/-! what a minute produces -/
theorem ht_ok {v : PlS} (hS : iS (pS v)) (h1 : -300 ≤ (pC v).1.toInt) (h2 : (pC v).1.toInt ≤ 400) : 500 ≤ (pHt v).toInt ∧ (pHt v).toInt ≤ 28000 := by
  obtain ⟨b7, b8, -⟩ := iS_b hS
  have e7 : F7_valueOf (pS v) (7 : Int32) = pS v 7 := vl_i (j := 7) (by omega)
  have e8 : F7_valueOf (pS v) (8 : Int32) = pS v 8 := vl_i (j := 8) (by omega)
  unfold pHt
  rw [e7, e8]
  have hm := ar_mul (a := (pS v 8).toInt) (b := (pC v).1.toInt) (A := 200) (B := 400) (by omega) (by omega) (by omega) (by omega)
  have em : (pS v 8 * (pC v).1).toInt64.toInt = (pS v 8).toInt * (pC v).1.toInt := by
    rw [Int32.toInt_toInt64, ar_m32 (by omega) (by omega)]
  have ed : (F10_div (pS v 8 * (pC v).1).toInt64 10).toInt = ((pS v 8).toInt * (pC v).1.toInt) / 10 := by
    rw [ar_div (by decide), em, show (10 : Int64).toInt = 10 from by decide]
  generalize (pS v 8).toInt * (pC v).1.toInt = P at *
  have ea : ((pS v 7).toInt64 + F10_div (pS v 8 * (pC v).1).toInt64 10).toInt = (pS v 7).toInt + P / 10 := by
    rw [ar_a64 (by rw [ed, Int32.toInt_toInt64]; omega) (by rw [ed, Int32.toInt_toInt64]; omega), ed, Int32.toInt_toInt64]
  generalize (pS v 7).toInt64 + F10_div (pS v 8 * (pC v).1).toInt64 10 = w at *
  have e5 : (500 : Int64).toInt = 500 := by decide
  by_cases c : w < (500 : Int64)
  · rw [if_pos c, e5]; omega
  · rw [if_neg c]
    rw [lt64, e5] at c
    omega
theorem pc_ok (v : PlS) : 100 ≤ (pPc v).toInt ∧ (pPc v).toInt ≤ 700 := by
  unfold pPc
  generalize pPx v = w
  have e7 : (700 : Int64).toInt = 700 := by decide
  have e1 : (100 : Int64).toInt = 100 := by decide
  by_cases c : w < (700 : Int64)
  · rw [if_pos c]
    rw [lt64, e7] at c
    by_cases d : w < (100 : Int64)
    · rw [if_pos d, e1]; omega
    · rw [if_neg d]
      rw [lt64, e1] at d
      omega
  · rw [if_neg c, if_neg (by decide), e7]
    omega
theorem el_ok {v : PlS} (hS : iS (pS v)) (h1 : -300 ≤ (pC v).1.toInt) (h2 : (pC v).1.toInt ≤ 400) : 0 ≤ (pEl v).toInt ∧ (pEl v).toInt ≤ 30000 := by
  have hh := ht_ok hS h1 h2
  have hp := pc_ok v
  unfold pEl
  have e100 : (100 : Int64).toInt = 100 := by decide
  have em : (pHt v * (100 : Int64)).toInt = (pHt v).toInt * 100 := by
    rw [ar_m64 (by rw [e100]; omega) (by rw [e100]; omega), e100]
  have ea : (pHt v * (100 : Int64) + pPc v).toInt = (pHt v).toInt * 100 + (pPc v).toInt := by
    rw [ar_a64 (by rw [em]; omega) (by rw [em]; omega), em]
  have es : (pHt v * (100 : Int64) + pPc v - (1 : Int64)).toInt = (pHt v).toInt * 100 + (pPc v).toInt - 1 := by
    rw [ar_s64 (by rw [ea, show (1 : Int64).toInt = 1 from by decide]; omega) (by rw [ea, show (1 : Int64).toInt = 1 from by decide]; omega), ea, show (1 : Int64).toInt = 1 from by decide]
  rw [ar_div (by omega), es]
  have hd := dv_mul (e := (pHt v).toInt * 100 + (pPc v).toInt - 1) (c := (pPc v).toInt) (by omega)
  have hq := Int.ediv_nonneg (show 0 ≤ (pHt v).toInt * 100 + (pPc v).toInt - 1 by omega) (show 0 ≤ (pPc v).toInt by omega)
  generalize ((pHt v).toInt * 100 + (pPc v).toInt - 1) / (pPc v).toInt = q at *
  have := Int.mul_le_mul_of_nonneg_right hp.1 hq
  generalize (pPc v).toInt * q = Q at *
  omega
theorem upd_0 (E : Nat → Int64) (i : Nat) : vp_updL E i (E i + (0 : Int64)) = E := funext fun j => by
  unfold vp_updL
  split
  · rename_i h
    subst h
    grind
  · rfl
def pXx (m : Int32) (v : PlS) : PlS := if m = (1 : Int32) then F5_produce v else if m = (2 : Int32) then F5_defrost v else v
set_option maxHeartbeats 8000000 in
theorem px_ok {m : Int32} {v : PlS} (hSv : iS (pS v)) (hC : iC (pC v)) : ∃ x e : Int64, (pS (pXx m v) = pS v ∧ pW (pXx m v) = pW v ∧ pK (pXx m v) = pK v ∧ pC (pXx m v) = pC v ∧ pT (pXx m v) = pT v) ∧ pB (pXx m v) = (vp_updL (pB v).1 3 ((pB v).1 3 + x), (pB v).2) ∧ (-20000 ≤ x.toInt ∧ x.toInt ≤ 28000) ∧ ((pP (pXx m v)).1 = (pP v).1 ∧ ((pP (pXx m v)).2.2.2.2.1 = (pP v).2.2.2.2.1 ∨ (pP (pXx m v)).2.2.2.2.1 = (pP v).2.2.2.2.1 + (1 : Int32)) ∧ (pP (pXx m v)).2.2.2.2.2 = (pP v).2.2.2.2.2) ∧ ((pA (pXx m v)).1 = (pA v).1 ∧ (pA (pXx m v)).2.1 = (pA v).2.1 ∧ (pA (pXx m v)).2.2.1 = (pA v).2.2.1 ∧ (pA (pXx m v)).2.2.2.1 = (pA v).2.2.2.1) ∧ (pA (pXx m v)).2.2.2.2.1 - (pA (pXx m v)).2.2.2.2.2.1 = (pA v).2.2.2.2.1 - (pA v).2.2.2.2.2.1 + x ∧ ((pA (pXx m v)).2.2.2.2.2.2.1 = (pA v).2.2.2.2.2.2.1 ∧ (pA (pXx m v)).2.2.2.2.2.2.2.1 = (pA v).2.2.2.2.2.2.2.1 ∧ (pA (pXx m v)).2.2.2.2.2.2.2.2.1 = (pA v).2.2.2.2.2.2.2.2.1) ∧ ((pA (pXx m v)).2.2.2.2.2.2.2.2.2.1 = (pA v).2.2.2.2.2.2.2.2.2.1 + e ∧ (pA (pXx m v)).2.2.2.2.2.2.2.2.2.2 = (pA v).2.2.2.2.2.2.2.2.2.2 + e * ((pC v).2.2.1).toInt64) ∧ 0 ≤ e.toInt ∧ e.toInt ≤ 30000 := by
  have hO1 : -300 ≤ (pC v).1.toInt := hC.1.1
  have hO2 : (pC v).1.toInt ≤ 400 := hC.1.2
  unfold pXx
  by_cases c1 : m = (1 : Int32)
  · rw [if_pos c1]
    have hh := ht_ok hSv hO1 hO2
    have he := el_ok hSv hO1 hO2
    refine ⟨pHt v, pEl v, ?_⟩
    by_cases c : F7_valueOf (pS v) (9 : Int32) ≤ (pC v).1
    · rw [pr_a c, add3]
      unfold prA
      refine ⟨⟨rfl, rfl, rfl, rfl, rfl⟩, rfl, by omega, ⟨rfl, Or.inl rfl, rfl⟩, ⟨rfl, rfl, rfl, rfl⟩, ?_, ⟨rfl, rfl, rfl⟩, ⟨rfl, rfl⟩, he⟩
      show (pA v).2.2.2.2.1 + pHt v - (pA v).2.2.2.2.2.1 = _
      grind
    · rw [pr_b c, add3]
      unfold prA prP
      refine ⟨⟨rfl, rfl, rfl, rfl, rfl⟩, rfl, by omega, ⟨rfl, Or.inr rfl, rfl⟩, ⟨rfl, rfl, rfl, rfl⟩, ?_, ⟨rfl, rfl, rfl⟩, ⟨rfl, rfl⟩, he⟩
      show (pA v).2.2.2.2.1 + pHt v - (pA v).2.2.2.2.2.1 = _
      grind
  · rw [if_neg c1]
    by_cases c2 : m = (2 : Int32)
    · rw [if_pos c2, df_eq, add3]
      unfold dfA
      obtain ⟨-, -, b12, -⟩ := iS_b hSv
      have e12 : F7_valueOf (pS v) (12 : Int32) = pS v 12 := vl_i (j := 12) (by omega)
      have en : (-(F7_valueOf (pS v) (12 : Int32))).toInt64 = -(pS v 12).toInt64 := by rw [e12]; exact ng_64 (by omega)
      have ent : (-(pS v 12).toInt64).toInt = -(pS v 12).toInt := by
        rw [Int64.toInt_neg, Int32.toInt_toInt64, ar_b64 (by omega) (by omega)]
      rw [en]
      refine ⟨-(pS v 12).toInt64, 200, ⟨rfl, rfl, rfl, rfl, rfl⟩, rfl, by rw [ent]; omega, ⟨rfl, Or.inl rfl, rfl⟩, ⟨rfl, rfl, rfl, rfl⟩, ?_, ⟨rfl, rfl, rfl⟩, ⟨rfl, rfl⟩, by decide, by decide⟩
      show (pA v).2.2.2.2.1 - ((pA v).2.2.2.2.2.1 + (F7_valueOf (pS v) (12 : Int32)).toInt64) = _
      rw [e12]
      grind
    · rw [if_neg c2]
      refine ⟨0, 0, ⟨rfl, rfl, rfl, rfl, rfl⟩, ?_, by decide, ⟨rfl, Or.inl rfl, rfl⟩, ⟨rfl, rfl, rfl, rfl⟩, ?_, ⟨rfl, rfl, rfl⟩, ⟨?_, ?_⟩, by decide, by decide⟩
      · rw [upd_0]
      · show (pA v).2.2.2.2.1 - (pA v).2.2.2.2.2.1 = _
        grind
      · show (pA v).2.2.2.2.2.2.2.2.2.1 = _
        grind
      · show (pA v).2.2.2.2.2.2.2.2.2.2 = _
        grind
theorem mX_e (u : PlS) : mX u = pXx (m4 u).1 (mV u) := by unfold mX pXx; rfl
set_option maxHeartbeats 8000000 in
theorem mx_ok {u : PlS} (hS : iS (pS u)) (hC : iC (pC u)) : ∃ x e : Int64, (pS (mX u) = pS u ∧ pW (mX u) = pW u ∧ pK (mX u) = pK u ∧ pC (mX u) = pC u ∧ pT (mX u) = pT u) ∧ pB (mX u) = (vp_updL (pB u).1 3 ((pB u).1 3 + x), (pB u).2) ∧ (-20000 ≤ x.toInt ∧ x.toInt ≤ 28000) ∧ ((pP (mX u)).1 = (m4 u).1 ∧ ((pP (mX u)).2.2.2.2.1 = (m4 u).2.2.2.2.1 ∨ (pP (mX u)).2.2.2.2.1 = (m4 u).2.2.2.2.1 + (1 : Int32)) ∧ (pP (mX u)).2.2.2.2.2 = (m4 u).2.2.2.2.2) ∧ ((pA (mX u)).1 = (m5 u).1 ∧ (pA (mX u)).2.1 = (m5 u).2.1 ∧ (pA (mX u)).2.2.1 = (m5 u).2.2.1 ∧ (pA (mX u)).2.2.2.1 = (m5 u).2.2.2.1) ∧ (pA (mX u)).2.2.2.2.1 - (pA (mX u)).2.2.2.2.2.1 = (m5 u).2.2.2.2.1 - (m5 u).2.2.2.2.2.1 + x ∧ ((pA (mX u)).2.2.2.2.2.2.1 = (m5 u).2.2.2.2.2.2.1 ∧ (pA (mX u)).2.2.2.2.2.2.2.1 = (m5 u).2.2.2.2.2.2.2.1 ∧ (pA (mX u)).2.2.2.2.2.2.2.2.1 = (m5 u).2.2.2.2.2.2.2.2.1) ∧ ((pA (mX u)).2.2.2.2.2.2.2.2.2.1 = (m5 u).2.2.2.2.2.2.2.2.2.1 + e ∧ (pA (mX u)).2.2.2.2.2.2.2.2.2.2 = (m5 u).2.2.2.2.2.2.2.2.2.2 + e * ((pC u).2.2.1).toInt64) ∧ 0 ≤ e.toInt ∧ e.toInt ≤ 30000 := by
  rw [mX_e]
  have h := px_ok (m := (m4 u).1) (v := mV u) hS hC
  exact h
/-! a minute leaves what always holds, and keeps the accounts -/
theorem mA_p (u : PlS) : ((mA u).1 = (pA (mX u)).1 ∧ (mA u).2.1 = (pA (mX u)).2.1 ∧ (mA u).2.2.1 = (pA (mX u)).2.2.1 ∧ (mA u).2.2.2.1 = (pA (mX u)).2.2.2.1 ∧ (mA u).2.2.2.2.1 = (pA (mX u)).2.2.2.2.1 ∧ (mA u).2.2.2.2.2.1 = (pA (mX u)).2.2.2.2.2.1) ∧ ((mA u).2.2.2.2.2.2.1 = (pA (mX u)).2.2.2.2.2.2.1 + (mD u).1 ∧ (mA u).2.2.2.2.2.2.2.1 = (pA (mX u)).2.2.2.2.2.2.2.1 + (((pC (mX u)).2.2.2.1).toInt64 - (mD u).1) ∧ (mA u).2.2.2.2.2.2.2.2.1 = (pA (mX u)).2.2.2.2.2.2.2.2.1 + (mL u).1) ∧ (mA u).2.2.2.2.2.2.2.2.2.1 = (pA (mX u)).2.2.2.2.2.2.2.2.2.1 ∧ (mA u).2.2.2.2.2.2.2.2.2.2 = (pA (mX u)).2.2.2.2.2.2.2.2.2.2 := by
  unfold mA
  exact ⟨⟨rfl, rfl, rfl, rfl, rfl, rfl⟩, ⟨rfl, rfl, rfl⟩, rfl, rfl⟩
theorem tp8 {u : PlS} {a : SS} {b : SW} {c : SK} {d : SB} {e : SP} {f : SA} {g : SC} {h : Int32} (hu : u = (a, b, c, d, e, f, g, h)) : pS u = a ∧ pW u = b ∧ pK u = c ∧ pB u = d ∧ pP u = e ∧ pA u = f ∧ pC u = g ∧ pT u = h := by
  subst hu
  exact ⟨rfl, rfl, rfl, rfl, rfl, rfl, rfl, rfl⟩
theorem sm_p (u : PlS) : pS (F5_simulateMinute u) = pS (mX u) ∧ pW (F5_simulateMinute u) = pW (mX u) ∧ pK (F5_simulateMinute u) = pK (mX u) ∧ pB (F5_simulateMinute u) = mE u ∧ pP (F5_simulateMinute u) = F6_countMinute (pP (mX u)) ∧ pA (F5_simulateMinute u) = mA u ∧ pC (F5_simulateMinute u) = pC (mX u) ∧ pT (F5_simulateMinute u) = pT (mX u) + (1 : Int32) := tp8 (sm_eq u)
set_option maxHeartbeats 8000000 in
theorem sm_ok {u : PlS} (hI : Iv u) (hC : iC (pC u)) (ht : (pT u).toInt < 100000) : (pS (F5_simulateMinute u) = pS u ∧ pW (F5_simulateMinute u) = pW u ∧ pK (F5_simulateMinute u) = pK u ∧ pC (F5_simulateMinute u) = pC u ∧ pT (F5_simulateMinute u) = pT u + (1 : Int32)) ∧ Iv (F5_simulateMinute u) ∧ F10_stored (F5_simulateMinute u) - F10_stored u = F12_net (F5_simulateMinute u) - F12_net u ∧ (F10_drawn (F5_simulateMinute u) + F10_unmet (F5_simulateMinute u)) - (F10_drawn u + F10_unmet u) = ((pC u).2.2.2.1).toInt64 ∧ (F10_starts u).toInt ≤ (F10_starts (F5_simulateMinute u)).toInt := by
  obtain ⟨iS0, iW0, iK0, ⟨hT0, hT1⟩, ⟨hc1, hc2, hE⟩, ⟨hp0, hp1, hp2⟩, hF, hA, ⟨h1, h2, h3, h4, h5⟩⟩ := hI
  obtain ⟨x, e, ⟨xS, xW, xK, xC, xT⟩, xB, hx, ⟨xm, xf, xr⟩, ⟨a1, a2, a3, a4⟩, a5, ⟨a6, a7, a8⟩, ⟨a9, a10⟩, he⟩ := mx_ok iS0 hC
  obtain ⟨f1, f2, f3, f4, f5, f6⟩ := st_F hp0 hT0 ht hF
  obtain ⟨g1, g2, g3⟩ := st_A hp0 hA
  obtain ⟨r1, r2, r3⟩ := mr_ok hp0
  obtain ⟨-, -, -, b13, b14, -⟩ := iS_b iS0
  obtain ⟨-, hpr, hdm⟩ := hC
  obtain ⟨-, -, -, -, hs0, hs1⟩ := hF
  -- the buffer
  have hE3 := hE 3 (by omega)
  have ex : ((pB u).1 3 + x).toInt = ((pB u).1 3).toInt + x.toInt := ar_a64 (by omega) (by omega)
  have q1 : bdE (4028000 + 30000 * (pT u).toInt) (pB (mX u)).1 := by
    rw [xB]
    exact bd_upd (bd_mono hE (by omega)) (by rw [ex]; omega) (by rw [ex]; omega)
  have qc : (pB (mX u)).2 = (pB u).2 := by rw [xB]
  obtain ⟨d1, d2, d3, d4, d5⟩ := dr_ok (B := pB (mX u)) (d := ((pC (mX u)).2.2.2.1).toInt64) (M := 4028000 + 30000 * (pT u).toInt) (by omega) (by omega) q1 (by rw [qc]; exact hc1) (by rw [qc]; exact hc2) (by rw [xC, Int32.toInt_toInt64]; exact hdm.1)
  have e13 : F7_valueOf (pS (mX u)) (13 : Int32) = pS u 13 := by rw [xS]; exact vl_i (j := 13) (by omega)
  have e14 : F7_valueOf (pS (mX u)) (14 : Int32) = pS u 14 := by rw [xS]; exact vl_i (j := 14) (by omega)
  have dD : mD u = F1_draw (pB (mX u)) ((pC (mX u)).2.2.2.1).toInt64 := rfl
  rw [← dD] at d1 d2 d3 d4 d5
  obtain ⟨l1, l2, l3, l4, l5⟩ := lo_ok (B := (mD u).2) (p := F7_valueOf (pS (mX u)) (13 : Int32)) (M := 4028000 + 30000 * (pT u).toInt) (by omega) (by omega) d5 (by rw [d3, qc]; exact hc1) (by rw [e13]; exact b13.1) (by rw [e13]; exact b13.2)
  have dL : mL u = F1_lose (mD u).2 (F7_valueOf (pS (mX u)) (13 : Int32)) := rfl
  rw [← dL] at l1 l2 l3 l4 l5
  obtain ⟨i1, i2, i3⟩ := ri_ok (B := (mL u).2) (M := 4028000 + 30000 * (pT u).toInt) (by omega) (by omega) l1
  obtain ⟨c1, c2, c3⟩ := co_ok (B := F1_rise (mL u).2) (p := F7_valueOf (pS (mX u)) (14 : Int32)) (M := 4028000 + 30000 * (pT u).toInt) (by omega) (by omega) i1 (by rw [i2, l2, d3, qc]; exact hc1) (by rw [e14]; exact b14.1) (by rw [e14]; exact b14.2)
  have dE : mE u = F1_conduct (F1_rise (mL u).2) (F7_valueOf (pS (mX u)) (14 : Int32)) := rfl
  rw [← dE] at c1 c2 c3
  have hsum : sE (mE u).1 = sE (pB u).1 + x - (mD u).1 - (mL u).1 := by
    have k1 : sE (mD u).2.1 = sE (pB (mX u)).1 - (mD u).1 := by
      rw [d4, sE_upd (by omega)]
      grind
    have k2 : sE (pB (mX u)).1 = sE (pB u).1 + x := by
      rw [xB]
      show sE (vp_updL (pB u).1 3 ((pB u).1 3 + x)) = _
      rw [sE_upd (by omega)]
      grind
    rw [c3, i3]
    rw [k1, k2] at l3
    grind
  have eT : (pT u + (1 : Int32)).toInt = (pT u).toInt + 1 := ar_a32 (by rw [show (1 : Int32).toInt = 1 from by decide]; omega) (by rw [show (1 : Int32).toInt = 1 from by decide]; omega)
  have xA5 : (pA (mX u)).2.2.2.2.2.2.1 = (pA u).2.2.2.2.2.2.1 ∧ (pA (mX u)).2.2.2.2.2.2.2.1 = (pA u).2.2.2.2.2.2.2.1 ∧ (pA (mX u)).2.2.2.2.2.2.2.2.1 = (pA u).2.2.2.2.2.2.2.2.1 ∧ (pA (mX u)).2.2.2.2.2.2.2.2.2.1 = (pA u).2.2.2.2.2.2.2.2.2.1 + e ∧ (pA (mX u)).2.2.2.2.2.2.2.2.2.2 = (pA u).2.2.2.2.2.2.2.2.2.2 + e * ((pC u).2.2.1).toInt64 ∧ (pA (mX u)).2.2.2.2.1 - (pA (mX u)).2.2.2.2.2.1 = (pA u).2.2.2.2.1 - (pA u).2.2.2.2.2.1 + x := by
    rw [a5, a6, a7, a8, a9, a10, g3]
    exact ⟨rfl, rfl, rfl, rfl, rfl, rfl⟩
  obtain ⟨y6, y7, y8, y9, y10, y5⟩ := xA5
  have xd : ((pC (mX u)).2.2.2.1).toInt64.toInt = (pC u).2.2.2.1.toInt := by rw [xC, Int32.toInt_toInt64]
  obtain ⟨⟨A1, A2, A3, A4, A5, A6⟩, ⟨A7, A8, A9⟩, A10, A11⟩ := mA_p u
  obtain ⟨vS, vW, vK, vB, vP, vA, vC, vT⟩ := sm_p u
  clear dD dL dE
  generalize F5_simulateMinute u = v at *
  generalize mX u = X at *
  generalize mD u = D at *
  generalize mL u = L at *
  generalize mE u = E at *
  generalize mA u = Y at *
  generalize m4 u = P4 at *
  generalize m5 u = P5 at *
  generalize mR u = r at *
  have hk := (cm_k (pP X)).2
  have hm : (pP v).1 = mOf r := by rw [vP]; exact (cm_k _).1.trans (xm.trans r1)
  have k1 : (pP v).2.2.2.2.1 = (pP X).2.2.2.2.1 := by rw [vP]; exact congrArg Prod.fst hk
  have k2 : (pP v).2.2.2.2.2 = P4.2.2.2.2.2 := by rw [vP]; exact (congrArg Prod.snd hk).trans xr
  have k3 : (pP v).2.2.2.2.2.1 = P4.2.2.2.2.2.1 := congrArg Prod.fst k2
  have k4 : (pP v).2.2.2.2.2.2 = P4.2.2.2.2.2.2 := congrArg Prod.snd k2
  generalize F6_countMinute (pP X) = CP at *
  have eTv : (pT v).toInt = (pT u).toInt + 1 := by rw [vT, xT]; exact eT
  have w7 : (pA v).2.2.2.2.2.2.1 = (pA u).2.2.2.2.2.2.1 + D.1 := by rw [vA, A7, y6]
  have w8 : (pA v).2.2.2.2.2.2.2.1 = (pA u).2.2.2.2.2.2.2.1 + (((pC X).2.2.2.1).toInt64 - D.1) := by rw [vA, A8, y7]
  have w9 : (pA v).2.2.2.2.2.2.2.2.1 = (pA u).2.2.2.2.2.2.2.2.1 + L.1 := by rw [vA, A9, y8]
  have w10 : (pA v).2.2.2.2.2.2.2.2.2.1 = (pA u).2.2.2.2.2.2.2.2.2.1 + e := by rw [vA, A10, y9]
  have w11 : (pA v).2.2.2.2.2.2.2.2.2.2 = (pA u).2.2.2.2.2.2.2.2.2.2 + e * ((pC u).2.2.1).toInt64 := by rw [vA, A11, y10]
  have w5 : (pA v).2.2.2.2.1 - (pA v).2.2.2.2.2.1 = (pA u).2.2.2.2.1 - (pA u).2.2.2.2.2.1 + x := by rw [vA, A5, A6, y5]
  have w3 : (pA v).2.2.1 = P5.2.2.1 := by rw [vA, A3, a3]
  refine ⟨⟨by rw [vS, xS], by rw [vW, xW], by rw [vK, xK], by rw [vC, xC], by rw [vT, xT]⟩, ⟨?_, ?_, ?_, ?_, ?_, ?_, ?_, ?_, ?_⟩, ?_, ?_, ?_⟩
  · rw [vS, xS]; exact iS0
  · rw [vW, xW]; exact iW0
  · rw [vK, xK]; exact iK0
  · rw [eTv]; omega
  · rw [eTv, vB]
    exact ⟨by rw [c2, i2, l2, d3, qc]; exact hc1, by rw [c2, i2, l2, d3, qc]; exact hc2, bd_mono c1 (by omega)⟩
  · rw [eTv]
    have hl : (pA v).2.1 = r := by rw [vA, A2, a2, g2]
    refine ⟨?_, fun h => by omega, fun _ => ?_⟩
    · rw [hm]
      unfold mOf
      repeat' split
      all_goals decide
    · rw [hl]
      exact ⟨r2, r3, hm⟩
  · rw [eTv]
    unfold iF
    rw [k1, k3, k4, w3]
    refine ⟨?_, f2, f3, f4, by omega, by omega⟩
    rcases xf with h | h
    · rw [h]; omega
    · rw [h, ar_a32 (by rw [show (1 : Int32).toInt = 1 from by decide]; omega) (by rw [show (1 : Int32).toInt = 1 from by decide]; omega), show (1 : Int32).toInt = 1 from by decide]
      omega
  · unfold iA
    rw [vT, xT, w3, vA, A1, A4, a1, a4]
    exact g1
  · rw [eTv]
    unfold iH
    rw [w7, w8, w9, w10, w11]
    rw [xd] at d2
    have u2 : (((pC X).2.2.2.1).toInt64 - D.1).toInt = (pC u).2.2.2.1.toInt - D.1.toInt := by
      rw [ar_s64 (by rw [xd]; omega) (by rw [xd]; omega), xd]
    have hmul := Int.mul_nonneg he.1 hpr.1
    have hmul2 := Int.mul_le_mul_of_nonneg_left hpr.2 he.1
    have u5 : (e * ((pC u).2.2.1).toInt64).toInt = e.toInt * (pC u).2.2.1.toInt := by
      rw [ar_m64 (by rw [Int32.toInt_toInt64]; omega) (by rw [Int32.toInt_toInt64]; omega), Int32.toInt_toInt64]
    generalize e.toInt * (pC u).2.2.1.toInt = P at *
    rw [ar_a64 (x := (pA u).2.2.2.2.2.2.1) (by omega) (by omega), ar_a64 (x := (pA u).2.2.2.2.2.2.2.1) (by rw [u2]; omega) (by rw [u2]; omega), u2, ar_a64 (x := (pA u).2.2.2.2.2.2.2.2.1) (by omega) (by omega), ar_a64 (x := (pA u).2.2.2.2.2.2.2.2.2.1) (by omega) (by omega), ar_a64 (x := (pA u).2.2.2.2.2.2.2.2.2.2) (by rw [u5]; omega) (by rw [u5]; omega), u5]
    omega
  · show sE (pB v).1 - sE (pB u).1 = ((((pA v).2.2.2.2.1 - (pA v).2.2.2.2.2.1) - (pA v).2.2.2.2.2.2.1) - (pA v).2.2.2.2.2.2.2.2.1) - ((((pA u).2.2.2.2.1 - (pA u).2.2.2.2.2.1) - (pA u).2.2.2.2.2.2.1) - (pA u).2.2.2.2.2.2.2.2.1)
    rw [vB, hsum, w5, w7, w9]
    grind
  · show ((pA v).2.2.2.2.2.2.1 + (pA v).2.2.2.2.2.2.2.1) - ((pA u).2.2.2.2.2.2.1 + (pA u).2.2.2.2.2.2.2.1) = _
    rw [w7, w8, xC]
    grind
  · show (pA u).2.2.1.toInt ≤ (pA v).2.2.1.toInt
    rw [w3]
    exact f5
