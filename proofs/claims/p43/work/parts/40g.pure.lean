/-! what the class tells of hours agrees with weather and settings -/
theorem it_in {n : Nat} (hn : n < 24) : F8_isHour (nI n) = true := by
  unfold F8_isHour
  rw [if_neg (w_i0 (by rw [nI_toInt (by omega)]; omega)), if_neg (by rw [w_leI, nI_toInt (by omega), show (24 : Int32).toInt = 24 from by decide]; omega)]
theorem oo_in {x : Int32} (h1 : -300 ≤ x.toInt) (h2 : x.toInt ≤ 400) : F8_isOutdoor x = true := w_two.mpr ⟨by rw [show (-300 : Int32).toInt = -300 from by decide]; exact h1, by rw [show (400 : Int32).toInt = 400 from by decide]; exact h2⟩
theorem tg_ok {u : PlS} (hW : iW (pW u)) {k : Nat} (hk : k < 24) : F10_target u (nI k) = F10_supply u (F10_outdoor u (nI k)) + (if F10_tariff u (nI k) = (0 : Int32) then F10_setting u (5 : Int32) else (0 : Int32)) := by
  have ho := hW.1 k hk
  unfold F10_target F10_supply F10_outdoor F10_tariff F10_setting F5_targetIn
  rw [if_pos (it_in hk), el_in hk (by decide), el_in hk (by decide), el_in hk (by decide), el_in hk (by decide), if_pos (oo_in ho.1 ho.2)]
  have e5 : F7_valueOf (pS u) (5 : Int32) = pS u 5 := vl_i (j := 5) (by omega)
  have e5' : F10_elementOr 17 (pS u) (5 : Int32) (-9999 : Int32) = pS u 5 := el_in (n := 17) (j := 5) (by omega) (by decide)
  rw [e5, e5']
  by_cases c : (pW u).2.1 k = (0 : Int32)
  · rw [if_pos c, if_pos (decide_eq_true c)]
  · rw [if_neg c, if_neg (by rw [decide_eq_false c]; decide)]
    grind
theorem dv_32 {x : Int32} (h : 0 ≤ x.toInt) : (x / (10 : Int32)).toInt = x.toInt / 10 := by
  obtain ⟨n, en, hn, hnt⟩ := nat_n h
  have e : x / (10 : Int32) = nI (n / 10) := by rw [en]; exact pk_div (a := n) (d := 10) hn (by omega) (by omega)
  rw [e, nI_toInt (by omega), hnt]
  omega
theorem dm_ok {u : PlS} (hS : iS (pS u)) (hW : iW (pW u)) {k : Nat} (hk : k < 24) : F10_demand u (nI k) = (if (0 : Int32) ≤ ((F10_setting u (15 : Int32)) - (F10_outdoor u (nI k))) * (F10_setting u (16 : Int32)) then (((F10_setting u (15 : Int32)) - (F10_outdoor u (nI k))) * (F10_setting u (16 : Int32))) / (10 : Int32) else (0 : Int32)) := by
  obtain ⟨d1, d2, d3, d4⟩ := dm_v hS hW hk
  have e15 : F10_setting u (15 : Int32) = pS u 15 := el_in (n := 17) (j := 15) (by omega) (by decide)
  have e16 : F10_setting u (16 : Int32) = pS u 16 := el_in (n := 17) (j := 16) (by omega) (by decide)
  have eo : F10_outdoor u (nI k) = (pW u).1 k := el_in hk (by decide)
  rw [de_in hk, e15, e16, eo]
  apply Int32.toInt_inj.mp
  rw [d1]
  generalize ((pS u 15).toInt - ((pW u).1 k).toInt) * (pS u 16).toInt = P at *
  generalize (pS u 15 - (pW u).1 k) * pS u 16 = w at *
  have e0 : (0 : Int32).toInt = 0 := by decide
  by_cases c : (0 : Int32) ≤ w
  · rw [if_pos c]
    rw [w_leI, e0, d2] at c
    rw [dv_32 (by rw [d2]; exact c), d2]
    split <;> omega
  · rw [if_neg c, e0]
    rw [w_leI, e0, d2] at c
    rw [if_neg (by omega)]
/-! the law's rules hold -/
theorem r_12 {r : Int32} (h0 : 0 ≤ r.toInt) (h1 : r.toInt ≤ 11) : r = 0 ∨ r = 1 ∨ r = 2 ∨ r = 3 ∨ r = 4 ∨ r = 5 ∨ r = 6 ∨ r = 7 ∨ r = 8 ∨ r = 9 ∨ r = 10 ∨ r = 11 := by
  obtain ⟨n, en, hn, hnt⟩ := nat_n h0
  subst en
  rcases (show n = 0 ∨ n = 1 ∨ n = 2 ∨ n = 3 ∨ n = 4 ∨ n = 5 ∨ n = 6 ∨ n = 7 ∨ n = 8 ∨ n = 9 ∨ n = 10 ∨ n = 11 by omega) with rfl | rfl | rfl | rfl | rfl | rfl | rfl | rfl | rfl | rfl | rfl | rfl
  all_goals decide
theorem ru_L {u : PlS} : ∀ (fu i : Nat), i ≤ 12 → 12 - i < fu → L12_rules_4 u fu i (s32 (pA u).1 i) = (12, s32 (pA u).1 12) := by
  intro fu
  induction fu with
  | zero => intro i _ h; exact absurd h (by omega)
  | succ fu ih =>
    intro i hi hm
    unfold L12_rules_4
    by_cases c : 12 ≤ i
    · rw [if_pos c]
      obtain rfl : i = 12 := by omega
      rfl
    · rw [if_neg c]
      have e : F10_minutesWith u (nI i) = (pA u).1 i := el_in (n := 12) (by omega) (by decide)
      rw [e]
      exact ih (i + 1) (by omega) (by omega)
theorem ru_H {u : PlS} {z2 : Nat × Int32} (hI : Iv u) : ∀ (fu i : Nat), i ≤ 24 → 24 - i < fu → L12_rules_224 u z2 fu i = true := by
  obtain ⟨hS, hW, -, -, -, -, hF, -, ⟨h1, h2, h3, h4, h5⟩⟩ := hI
  intro fu
  induction fu with
  | zero => intro i _ h; exact absurd h (by omega)
  | succ fu ih =>
    intro i hi hm
    unfold L12_rules_224
    have e0 : (0 : Int32).toInt = 0 := by decide
    have e1 : (0 : Int64).toInt = 0 := by decide
    by_cases c : 24 ≤ i
    · rw [if_pos c]
      rw [if_neg (by rw [w_ltI, e0]; exact Int.not_lt.mpr hF.1.1), if_neg (by rw [lt64, e1]; exact Int.not_lt.mpr h1.1), if_neg (by rw [lt64, e1]; exact Int.not_lt.mpr h2.1), if_neg (by rw [lt64, e1]; exact Int.not_lt.mpr h3.1), if_neg (by rw [lt64, e1]; exact Int.not_lt.mpr h5.1), if_neg (by rw [lt64, e1]; exact Int.not_lt.mpr h4.1)]
    · rw [if_neg c, if_pos (tg_ok hW (by omega)), if_pos (dm_ok hS hW (by omega))]
      exact ih (i + 1) (by omega) (by omega)
theorem ru_222 {u : PlS} {z2 : Nat × Int32} (hI : Iv u) : T12_rules_222 u z2 = true := ru_H hI 25 0 (by omega) (by omega)
theorem ru_115 {u : PlS} {z2 : Nat × Int32} (hI : Iv u) : T12_rules_115 u z2 = true := by
  have h2 := ru_222 (z2 := z2) hI
  obtain ⟨-, -, -, ⟨hT0, -⟩, -, ⟨-, hp1, hp2⟩, -, -, -⟩ := hI
  have e0 : (0 : Int32).toInt = 0 := by decide
  unfold T12_rules_115 T12_rules_177
  rw [h2]
  by_cases ct : F10_time u ≤ (0 : Int32)
  · have ht : (pT u).toInt = 0 := by
      have : (pT u).toInt ≤ (0 : Int32).toInt := w_leI.mp ct
      omega
    have hm : F10_pump u = 0 := (hp1 ht).2
    rw [if_pos ct, if_pos ct, hm]
    decide
  · have ht : 0 < (pT u).toInt := by
      have : ¬ (pT u).toInt ≤ (0 : Int32).toInt := fun h => ct (w_leI.mpr h)
      omega
    obtain ⟨a1, a2, a3⟩ := hp2 ht
    have a3 : F10_pump u = mOf (F10_reason u) := a3
    have a1 : 0 ≤ (F10_reason u).toInt := a1
    have a2 : (F10_reason u).toInt ≤ 11 := a2
    rw [if_neg ct, if_neg ct, a3]
    generalize F10_reason u = r at *
    rcases r_12 a1 a2 with rfl | rfl | rfl | rfl | rfl | rfl | rfl | rfl | rfl | rfl | rfl | rfl
    all_goals decide
theorem ru_ok {u : PlS} (hI : Iv u) : F12_rules u = true := by
  have h5 := ru_115 (z2 := (12, s32 (pA u).1 12)) hI
  obtain ⟨-, -, -, ⟨hT0, -⟩, -, ⟨-, hp1, hp2⟩, ⟨-, hb, hr, hrs, -, -⟩, ⟨hA1, hA2, hA3⟩, -⟩ := hI
  have hsb := sI_bd hb 60 (by omega)
  have e0 : (0 : Int32).toInt = 0 := by decide
  unfold F12_rules
  have eL := ru_L (u := u) 13 0 (by omega) (by omega)
  have e9 : (s32 (pA u).1 0) = (0 : Int32) := rfl
  rw [e9] at eL
  rw [eL]
  unfold K12_rules_1
  have m11 : F10_minutesWith u (11 : Int32) = (pA u).1 11 := el_in (n := 12) (j := 11) (by omega) (by decide)
  have m4 : F10_minutesWith u (4 : Int32) = (pA u).1 4 := el_in (n := 12) (j := 4) (by omega) (by decide)
  rw [h5, m11, m4, if_pos (show (12, s32 (pA u).1 12).2 = F10_time u from hA1), if_pos (show F10_starts u = (pA u).1 11 from hA2), if_pos (show F10_defrosts u = (pA u).1 4 from hA3), if_neg (show ¬ F10_starts u < F10_startsLastHour u from fun h => by have := w_ltI.mp h; exact absurd hrs (by show ¬ (F10_startsLastHour u).toInt ≤ (F10_starts u).toInt; omega)), if_pos (show (0 : Int32) ≤ F10_startsLastHour u from w_leI.mpr (by rw [e0]; show 0 ≤ (pP u).2.2.2.2.2.1.toInt; omega))]
  by_cases ct : F10_time u = (0 : Int32)
  · have ht : (pT u).toInt = 0 := by rw [show pT u = (0 : Int32) from ct]; decide
    rw [if_pos ct, if_pos (show F10_reason u = (-9999 : Int32) from (hp1 ht).1)]
  · have ht : 0 < (pT u).toInt := by
      have : ¬ (pT u).toInt = 0 := fun h => ct (Int32.toInt_inj.mp (by rw [e0]; exact h))
      omega
    obtain ⟨a1, a2, a3⟩ := hp2 ht
    rw [if_neg ct, if_neg (show ¬ F10_reason u < (0 : Int32) from w_i0 a1), if_pos (show F10_reason u ≤ (11 : Int32) from w_leI.mpr (by rw [show (11 : Int32).toInt = 11 from by decide]; exact a2))]
