/-! division downwards, on both sides -/
theorem l_rem {p q : Int64} (hq : 0 < q.toInt) : (p - p / q * q).toInt = p.toInt.tmod q.toInt ∧ (0 ≤ p.toInt → 0 ≤ p.toInt.tmod q.toInt) ∧ (p.toInt < 0 → p.toInt.tmod q.toInt ≤ 0) := by
  have e1 : (p / q).toInt = p.toInt.tdiv q.toInt := Int64.toInt_div_of_ne_right _ _ (fun h => by rw [h] at hq; exact absurd hq (by decide))
  have e2 := Int.mul_tdiv_add_tmod p.toInt q.toInt
  have l1 := Int64.le_toInt p
  have l2 := Int64.toInt_lt p
  have hb : (0 ≤ p.toInt → 0 ≤ p.toInt.tmod q.toInt ∧ 0 ≤ q.toInt * p.toInt.tdiv q.toInt) ∧ (p.toInt < 0 → p.toInt.tmod q.toInt ≤ 0 ∧ q.toInt * p.toInt.tdiv q.toInt ≤ 0) := by
    constructor
    · intro h
      exact ⟨Int.tmod_nonneg _ h, Int.mul_nonneg (by omega) (Int.tdiv_nonneg h (by omega))⟩
    · intro h
      have h1 := Int.tmod_nonneg q.toInt (show 0 ≤ -p.toInt by omega)
      rw [Int.neg_tmod] at h1
      have h2 := Int.mul_nonneg (show 0 ≤ q.toInt by omega) (Int.tdiv_nonneg (show 0 ≤ -p.toInt by omega) (show 0 ≤ q.toInt by omega))
      rw [Int.neg_tdiv, Int.mul_neg] at h2
      omega
  refine ⟨?_, fun h => (hb.1 h).1, fun h => (hb.2 h).1⟩
  generalize p.toInt.tmod q.toInt = t at e2 hb ⊢
  have e3 : (p / q * q).toInt = q.toInt * p.toInt.tdiv q.toInt := by
    rw [Int64.toInt_mul, e1, Int.mul_comm]
    generalize q.toInt * p.toInt.tdiv q.toInt = m at e2 hb
    exact Int.bmod_eq_of_le (by omega) (by omega)
  rw [Int64.toInt_sub, e3]
  generalize q.toInt * p.toInt.tdiv q.toInt = m at e2 hb
  rw [show p.toInt - m = t by omega]
  exact Int.bmod_eq_of_le (by omega) (by omega)
theorem l_0le {x : Int64} : (0 : Int64) ≤ x ↔ 0 ≤ x.toInt := by
  rw [Int64.le_iff_toInt_le, show (0 : Int64).toInt = 0 from by decide]
theorem div_e {p q : Int64} (hq : 0 < q.toInt) : F10_div p q = F11_div p q := by
  obtain ⟨e, h1, h2⟩ := l_rem (p := p) hq
  unfold F10_div F11_div
  have hq0 : (0 : Int64) < q := by
    rw [Int64.lt_iff_toInt_lt, show (0 : Int64).toInt = 0 from by decide]
    exact hq
  have hq1 : (0 : Int64) ≤ q := l_0le.mpr (by omega)
  rw [if_pos hq0, decide_eq_true hq1]
  by_cases hz : p - p / q * q = 0
  · rw [if_pos hz, if_pos (by rw [hz]; exact Int64.le_refl 0)]
  · have hz' : p.toInt.tmod q.toInt ≠ 0 := fun h => hz (Int64.toInt_inj.mp (by rw [e, h]; rfl))
    rw [if_neg hz]
    by_cases hp : (0 : Int64) ≤ p
    · rw [if_pos (l_0le.mpr (by rw [e]; exact h1 (l_0le.mp hp))), decide_eq_true hp, if_pos rfl]
    · have hp' : p.toInt < 0 := by
        have := mt l_0le.mpr hp
        omega
      have h3 := h2 hp'
      rw [if_neg (fun h => by have := l_0le.mp h; rw [e] at this; omega), decide_eq_false hp, if_neg (by decide)]
