/-! losses -/
def lsD (c : Int32) (p : Int32) (E : Nat → Int64) (i : Nat) : Int64 := F10_div (((F1_temperatureOf (E, c) (nI i)) - (200 : Int64)) * p.toInt64) (10 : Int64)
def lsA (c : Int32) (p : Int32) (E : Nat → Int64) (i : Nat) : Int64 := if lsD c p E i < (0 : Int64) then (0 : Int64) else lsD c p E i
theorem ls_ok {c p : Int32} {E : Nat → Int64} {i : Nat} {M : Int} (hi : i < 4) (hM : 0 ≤ M) (hM2 : M ≤ 1000000000000) (hE : bdE M E) (hc1 : 100 ≤ c.toInt) (hp1 : 0 ≤ p.toInt) (hp2 : p.toInt ≤ 50) : 0 ≤ (lsA c p E i).toInt ∧ (lsA c p E i).toInt ≤ M ∧ -M ≤ (E i - lsA c p E i).toInt ∧ (E i - lsA c p E i).toInt ≤ M := by
  have h0 := hE i hi
  have et := tm_i (E := E) (c := c) hi (by omega)
  have hb := dv_bd (c := c.toInt) (by omega) hM h0.1 h0.2
  have hd := dv_mul (e := (E i).toInt) (c := c.toInt) (by omega)
  have e2 : (200 : Int64).toInt = 200 := by decide
  have e10 : (10 : Int64).toInt = 10 := by decide
  have e0 : (0 : Int64).toInt = 0 := by decide
  have es : (F1_temperatureOf (E, c) (nI i) - (200 : Int64)).toInt = (E i).toInt / c.toInt - 200 := by
    rw [ar_s64 (by rw [et, e2]; omega) (by rw [et, e2]; omega), et, e2]
  generalize (E i).toInt / c.toInt = T at et hb hd es
  have hpp := ar_mul (a := T - 200) (b := p.toInt) (A := 1000000000200) (B := 50) (by omega) (by omega) (by omega) (by omega)
  have em : ((F1_temperatureOf (E, c) (nI i) - (200 : Int64)) * p.toInt64).toInt = (T - 200) * p.toInt := by
    rw [ar_m64 (by rw [es, Int32.toInt_toInt64]; omega) (by rw [es, Int32.toInt_toInt64]; omega), es, Int32.toInt_toInt64]
  have eD : (lsD c p E i).toInt = ((T - 200) * p.toInt) / 10 := by
    unfold lsD
    rw [ar_div (by decide), em, e10]
  have hsm : T < 200 → (T - 200) * p.toInt ≤ 0 := fun h => by
    have := Int.mul_nonneg (show 0 ≤ 200 - T by omega) hp1
    rw [Int.sub_mul] at this ⊢
    omega
  have hlg : 200 ≤ T → (T - 200) * p.toInt ≤ (T - 200) * 50 := fun h => Int.mul_le_mul_of_nonneg_left hp2 (by omega)
  have hT : 200 ≤ T → 100 * T ≤ c.toInt * T := fun h => Int.mul_le_mul_of_nonneg_right hc1 (by omega)
  generalize (T - 200) * p.toInt = P at *
  generalize c.toInt * T = C at *
  unfold lsA
  by_cases hn : lsD c p E i < 0
  · rw [if_pos hn]
    have e3 : (E i - (0 : Int64)) = E i := by grind
    rw [e3, e0]
    omega
  · rw [if_neg hn]
    rw [lt64, eD, e0] at hn
    have h9 : (lsD c p E i).toInt ≤ M ∧ 0 ≤ (lsD c p E i).toInt ∧ -M ≤ (E i).toInt - (lsD c p E i).toInt := by
      rw [eD]
      by_cases h2 : 200 ≤ T
      · have := hlg h2
        have := hT h2
        omega
      · have := hsm (by omega)
        omega
    have e4 : (E i - lsD c p E i).toInt = (E i).toInt - (lsD c p E i).toInt := ar_s64 (by omega) (by omega)
    rw [e4]
    omega
theorem ls_loop {c p : Int32} {x0 : SB} {M : Int} (hx : x0.2 = c) (hM : 0 ≤ M) (hM2 : M ≤ 1000000000000) (hc1 : 100 ≤ c.toInt) (hp1 : 0 ≤ p.toInt) (hp2 : p.toInt ≤ 50) : ∀ (fu i : Nat) (E : Nat → Int64) (a : Int64), i ≤ 4 → 4 - i < fu → bdE M E → 0 ≤ a.toInt → a.toInt ≤ (i : Int) * M →
    bdE M (L1_lose_5 x0 p fu i E a).2.1 ∧ sE (L1_lose_5 x0 p fu i E a).2.1 + (L1_lose_5 x0 p fu i E a).2.2 = sE E + a ∧ 0 ≤ (L1_lose_5 x0 p fu i E a).2.2.toInt ∧ (L1_lose_5 x0 p fu i E a).2.2.toInt ≤ 4 * M := by
  subst hx
  intro fu
  induction fu with
  | zero => intro i E a _ h; exact absurd h (by omega)
  | succ fu ih =>
    intro i E a h4 hm hE ha0 ha1
    unfold L1_lose_5
    by_cases hi : 4 ≤ i
    · rw [if_pos hi]
      obtain rfl : i = 4 := by omega
      exact ⟨hE, rfl, ha0, ha1⟩
    · rw [if_neg hi]
      have hl := ls_ok (c := x0.2) (p := p) (E := E) (i := i) (by omega) hM hM2 hE hc1 hp1 hp2
      have hmul : ((i : Int) + 1) * M = (i : Int) * M + M := by rw [Int.add_mul, Int.one_mul]
      have hi4 : (i : Int) * M ≤ 3 * M := Int.mul_le_mul_of_nonneg_right (by omega) hM
      have ea : (a + lsA x0.2 p E i).toInt = a.toInt + (lsA x0.2 p E i).toInt := ar_a64 (by omega) (by omega)
      obtain ⟨g1, g2, g3, g4⟩ := ih (i + 1) (vp_updL E i (E i - lsA x0.2 p E i)) (a + lsA x0.2 p E i) (by omega) (by omega) (bd_upd hE hl.2.2.1 hl.2.2.2) (by rw [ea]; omega) (by rw [ea]; push_cast; rw [hmul]; omega)
      refine ⟨g1, ?_, g3, g4⟩
      rw [sE_upd (by omega)] at g2
      exact g2.trans (by grind)
theorem lo_ok {B : SB} {p : Int32} {M : Int} (hM : 0 ≤ M) (hM2 : M ≤ 1000000000000) (hE : bdE M B.1) (hc1 : 100 ≤ B.2.toInt) (hp1 : 0 ≤ p.toInt) (hp2 : p.toInt ≤ 50) : bdE M (F1_lose B p).2.1 ∧ (F1_lose B p).2.2 = B.2 ∧ sE (F1_lose B p).2.1 + (F1_lose B p).1 = sE B.1 ∧ 0 ≤ (F1_lose B p).1.toInt ∧ (F1_lose B p).1.toInt ≤ 4 * M := by
  obtain ⟨g1, g2, g3, g4⟩ := ls_loop (x0 := B) (p := p) rfl hM hM2 hc1 hp1 hp2 5 0 B.1 0 (by omega) (by omega) hE (by decide) (by show (0 : Int64).toInt ≤ 0 * M; rw [Int.zero_mul]; decide)
  exact ⟨g1, rfl, g2.trans (by grind), g3, g4⟩
/-! rising -/
theorem ri_1 {c : Prop} [Decidable c] {E : Nat → Int64} {i j : Nat} {M : Int} (hi : i < 4) (hj : j < 4) (hij : j ≠ i) (hM : 0 ≤ M) (hM2 : M ≤ 1000000000000) (hE : bdE M E) : bdE M (if c then E else vp_updL (vp_updL E j (F10_div (E i + E j) 2)) i ((E i + E j) - F10_div (E i + E j) 2)) ∧ sE (if c then E else vp_updL (vp_updL E j (F10_div (E i + E j) 2)) i ((E i + E j) - F10_div (E i + E j) 2)) = sE E := by
  split
  · exact ⟨hE, rfl⟩
  · have h1 := hE i hi
    have h2 := hE j hj
    have e2 : (2 : Int64).toInt = 2 := by decide
    have es : (E i + E j).toInt = (E i).toInt + (E j).toInt := ar_a64 (by omega) (by omega)
    have ed : (F10_div (E i + E j) 2).toInt = ((E i).toInt + (E j).toInt) / 2 := by rw [ar_div (by decide), es, e2]
    have er : ((E i + E j) - F10_div (E i + E j) 2).toInt = ((E i).toInt + (E j).toInt) - ((E i).toInt + (E j).toInt) / 2 := by
      rw [ar_s64 (by rw [es, ed]; omega) (by rw [es, ed]; omega), es, ed]
    refine ⟨bd_upd (bd_upd hE (by rw [ed]; omega) (by rw [ed]; omega)) (by rw [er]; omega) (by rw [er]; omega), ?_⟩
    rw [sE_upd hi, sE_upd hj]
    have : vp_updL E j (F10_div (E i + E j) 2) i = E i := by
      unfold vp_updL
      rw [if_neg (fun h => hij h.symm)]
    rw [this]
    grind
theorem ri_ok {B : SB} {M : Int} (hM : 0 ≤ M) (hM2 : M ≤ 1000000000000) (hE : bdE M B.1) : bdE M (F1_rise B).1 ∧ (F1_rise B).2 = B.2 ∧ sE (F1_rise B).1 = sE B.1 := by
  have a1 := ri_1 (c := F1_temperatureOf B (((4 : Int32) - (2 : Int32)) + (1 : Int32)) ≤ F1_temperatureOf B ((4 : Int32) - (2 : Int32))) (i := 2) (j := 3) (by omega) (by omega) (by omega) hM hM2 hE
  have e1 : B1_rise_12 B = _ := rfl
  unfold B1_rise_12 at e1
  rw [← e1] at a1
  have a2 := ri_1 (c := F1_temperatureOf (B1_rise_12 B, B.2) ((1 : Int32) + (1 : Int32)) ≤ F1_temperatureOf (B1_rise_12 B, B.2) (1 : Int32)) (i := 1) (j := 2) (by omega) (by omega) (by omega) hM hM2 a1.1
  have a3 := ri_1 (c := F1_temperatureOf (B1_rise_12_1 B (B1_rise_12 B), B.2) ((0 : Int32) + (1 : Int32)) ≤ F1_temperatureOf (B1_rise_12_1 B (B1_rise_12 B), B.2) (0 : Int32)) (i := 0) (j := 1) (by omega) (by omega) (by omega) hM hM2 a2.1
  exact ⟨a3.1, rfl, a3.2.trans (a2.2.trans a1.2)⟩
/-! conduction -/
def cnH (c : Int32) (p : Int32) (E : Nat → Int64) (i : Nat) : Int64 := F10_div (((F1_temperatureOf (E, c) (nI i)) - (F1_temperatureOf (E, c) ((nI i) + (1 : Int32)))) * p.toInt64) (10 : Int64)
theorem cn_1 {c p : Int32} {E : Nat → Int64} {i : Nat} {M : Int} (hi : i < 3) (hM : 0 ≤ M) (hM2 : M ≤ 1000000000000) (hE : bdE M E) (hc1 : 100 ≤ c.toInt) (hp1 : 0 ≤ p.toInt) (hp2 : p.toInt ≤ 100) (hd : ¬ ((F1_temperatureOf (E, c) (nI i)) - (F1_temperatureOf (E, c) ((nI i) + (1 : Int32)))) ≤ (0 : Int64)) : -(M + 10) ≤ (E i - cnH c p E i).toInt ∧ (E i - cnH c p E i).toInt ≤ M + 10 ∧ -(M + 10) ≤ (E (i + 1) + cnH c p E i).toInt ∧ (E (i + 1) + cnH c p E i).toInt ≤ M + 10 := by
  have h0 := hE i (by omega)
  have h1 := hE (i + 1) (by omega)
  have et := tm_i (E := E) (c := c) (i := i) (by omega) (by omega)
  have et1 := tm_i (E := E) (c := c) (i := i + 1) (by omega) (by omega)
  rw [← nI_1] at et1
  have hb := dv_bd (c := c.toInt) (by omega) hM h0.1 h0.2
  have hb1 := dv_bd (c := c.toInt) (by omega) hM h1.1 h1.2
  have hq := dv_mul (e := (E i).toInt) (c := c.toInt) (by omega)
  have hq1 := dv_mul (e := (E (i + 1)).toInt) (c := c.toInt) (by omega)
  have e10 : (10 : Int64).toInt = 10 := by decide
  have e0 : (0 : Int64).toInt = 0 := by decide
  unfold cnH
  generalize F1_temperatureOf (E, c) (nI i) = t at *
  generalize F1_temperatureOf (E, c) (nI i + 1) = t1 at *
  have es : (t - t1).toInt = (E i).toInt / c.toInt - (E (i + 1)).toInt / c.toInt := by
    rw [ar_s64 (by rw [et, et1]; omega) (by rw [et, et1]; omega), et, et1]
  rw [le64, es, e0] at hd
  generalize (E i).toInt / c.toInt = T at *
  generalize (E (i + 1)).toInt / c.toInt = T1 at *
  have hk : 100 * (T - T1 - 1) ≤ c.toInt * (T - T1 - 1) := Int.mul_le_mul_of_nonneg_right hc1 (by omega)
  rw [show c.toInt * (T - T1 - 1) = c.toInt * T - c.toInt * T1 - c.toInt by rw [Int.mul_sub, Int.mul_sub, Int.mul_one]] at hk
  have hpl : 0 ≤ (T - T1) * p.toInt := Int.mul_nonneg (by omega) hp1
  have hpu : (T - T1) * p.toInt ≤ (T - T1) * 100 := Int.mul_le_mul_of_nonneg_left hp2 (by omega)
  have em : ((t - t1) * p.toInt64).toInt = (T - T1) * p.toInt := by
    rw [ar_m64 (by rw [es, Int32.toInt_toInt64]; omega) (by rw [es, Int32.toInt_toInt64]; omega), es, Int32.toInt_toInt64]
  have eD : (F10_div ((t - t1) * p.toInt64) 10).toInt = ((T - T1) * p.toInt) / 10 := by
    rw [ar_div (by decide), em, e10]
  generalize F10_div ((t - t1) * p.toInt64) 10 = w at eD ⊢
  generalize (T - T1) * p.toInt = P at *
  generalize c.toInt * T = C at *
  generalize c.toInt * T1 = C1 at *
  have ea : (E i - w).toInt = (E i).toInt - w.toInt := ar_s64 (by omega) (by omega)
  have eb : (E (i + 1) + w).toInt = (E (i + 1)).toInt + w.toInt := ar_a64 (by omega) (by omega)
  rw [ea, eb]
  omega
theorem cn_loop {c p : Int32} {x0 : SB} {N : Int} (hx : x0.2 = c) (hc1 : 100 ≤ c.toInt) (hp1 : 0 ≤ p.toInt) (hp2 : p.toInt ≤ 100) (hN : N ≤ 999999999000) : ∀ (fu i : Nat) (M : Int) (E : Nat → Int64), i ≤ 3 → 3 - i < fu → 0 ≤ M → M + 10 * (3 - (i : Int)) ≤ N → bdE M E →
    bdE N (L1_conduct_2 x0 p fu i E).2 ∧ sE (L1_conduct_2 x0 p fu i E).2 = sE E := by
  subst hx
  intro fu
  induction fu with
  | zero => intro i M E _ h; exact absurd h (by omega)
  | succ fu ih =>
    intro i M E h3 hm hM hMN hE
    unfold L1_conduct_2
    by_cases hi : 3 ≤ i
    · rw [if_pos hi]
      exact ⟨bd_mono hE (by omega), rfl⟩
    · rw [if_neg hi]
      by_cases hd : ((F1_temperatureOf (E, x0.2) (nI i)) - (F1_temperatureOf (E, x0.2) ((nI i) + (1 : Int32)))) ≤ (0 : Int64)
      · rw [if_pos hd]
        exact ih (i + 1) M E (by omega) (by omega) hM (by push_cast; omega) hE
      · rw [if_neg hd]
        obtain ⟨g1, g2, g3, g4⟩ := cn_1 (c := x0.2) (p := p) (E := E) (i := i) (by omega) hM (by omega) hE hc1 hp1 hp2 hd
        have e1 : vp_updL E i (E i - cnH x0.2 p E i) (i + 1) = E (i + 1) := by
          unfold vp_updL
          rw [if_neg (by omega)]
        have hb := bd_upd (bd_upd (bd_mono hE (show M ≤ M + 10 by omega)) g1 g2 (i := i)) (i := i + 1) (x := E (i + 1) + cnH x0.2 p E i) g3 g4
        obtain ⟨k1, k2⟩ := ih (i + 1) (M + 10) (vp_updL (vp_updL E i (E i - cnH x0.2 p E i)) (i + 1) (E (i + 1) + cnH x0.2 p E i)) (by omega) (by omega) (by omega) (by push_cast; omega) hb
        rw [sE_upd (by omega), sE_upd (by omega), e1] at k2
        rw [← e1] at k1 k2
        exact ⟨k1, k2.trans (by rw [e1]; grind)⟩
theorem co_ok {B : SB} {p : Int32} {M : Int} (hM : 0 ≤ M) (hM2 : M ≤ 900000000000) (hE : bdE M B.1) (hc1 : 100 ≤ B.2.toInt) (hp1 : 0 ≤ p.toInt) (hp2 : p.toInt ≤ 100) : bdE (M + 30) (F1_conduct B p).1 ∧ (F1_conduct B p).2 = B.2 ∧ sE (F1_conduct B p).1 = sE B.1 := by
  obtain ⟨g1, g2⟩ := cn_loop (x0 := B) (p := p) (N := M + 30) rfl hc1 hp1 hp2 (by omega) 4 0 M B.1 (by omega) (by omega) hM (by push_cast; omega) hE
  exact ⟨g1, rfl, g2⟩
