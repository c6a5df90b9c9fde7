/-! arithmetic without a carry -/
theorem w_i0 {p : Int32} (h : 0 ≤ p.toInt) : ¬ p < 0 := by
  rw [Int32.lt_iff_toInt_lt, show (0 : Int32).toInt = 0 from by decide]
  omega
theorem l_rem {p q : Int64} (hq : 0 < q.toInt) : (p - p / q * q).toInt = p.toInt.tmod q.toInt ∧ (0 ≤ p.toInt → 0 ≤ p.toInt.tmod q.toInt) ∧ (p.toInt < 0 → p.toInt.tmod q.toInt ≤ 0) := by
  have e1 : (p / q).toInt = p.toInt.tdiv q.toInt := Int64.toInt_div_of_ne_right _ _ (fun h => by rw [h] at hq; exact absurd hq (by decide))
  have e2 := Int.mul_tdiv_add_tmod p.toInt q.toInt
  have l1 := Int64.le_toInt p
  have l2 := Int64.toInt_lt p
  have hb : (0 ≤ p.toInt → 0 ≤ p.toInt.tmod q.toInt ∧ 0 ≤ q.toInt * p.toInt.tdiv q.toInt) ∧ (p.toInt < 0 → p.toInt.tmod q.toInt ≤ 0 ∧ q.toInt * p.toInt.tdiv q.toInt ≤ 0) := by
    constructor
    · intro h
      exact ⟨Int.tmod_nonneg _ h, Int.mul_nonneg (by omega) (Int.tdiv_nonneg h (by omega))⟩
    · intro h
      have h1 := Int.tmod_nonneg q.toInt (show 0 ≤ -p.toInt by omega)
      rw [Int.neg_tmod] at h1
      have h2 := Int.mul_nonneg (show 0 ≤ q.toInt by omega) (Int.tdiv_nonneg (show 0 ≤ -p.toInt by omega) (show 0 ≤ q.toInt by omega))
      rw [Int.neg_tdiv, Int.mul_neg] at h2
      omega
  refine ⟨?_, fun h => (hb.1 h).1, fun h => (hb.2 h).1⟩
  generalize p.toInt.tmod q.toInt = t at e2 hb ⊢
  have e3 : (p / q * q).toInt = q.toInt * p.toInt.tdiv q.toInt := by
    rw [Int64.toInt_mul, e1, Int.mul_comm]
    generalize q.toInt * p.toInt.tdiv q.toInt = m at e2 hb
    exact Int.bmod_eq_of_le (by omega) (by omega)
  rw [Int64.toInt_sub, e3]
  generalize q.toInt * p.toInt.tdiv q.toInt = m at e2 hb
  rw [show p.toInt - m = t by omega]
  exact Int.bmod_eq_of_le (by omega) (by omega)
theorem l_0le {x : Int64} : (0 : Int64) ≤ x ↔ 0 ≤ x.toInt := by
  rw [Int64.le_iff_toInt_le, show (0 : Int64).toInt = 0 from by decide]
theorem ar_a32 {x y : Int32} (h1 : -2147483648 ≤ x.toInt + y.toInt) (h2 : x.toInt + y.toInt < 2147483648) : (x + y).toInt = x.toInt + y.toInt := by rw [Int32.toInt_add, w_bm h1 h2]
theorem ar_s32 {x y : Int32} (h1 : -2147483648 ≤ x.toInt - y.toInt) (h2 : x.toInt - y.toInt < 2147483648) : (x - y).toInt = x.toInt - y.toInt := by rw [Int32.toInt_sub, w_bm h1 h2]
theorem ar_m32 {x y : Int32} (h1 : -2147483648 ≤ x.toInt * y.toInt) (h2 : x.toInt * y.toInt < 2147483648) : (x * y).toInt = x.toInt * y.toInt := by rw [Int32.toInt_mul, w_bm h1 h2]
theorem ar_b64 {x : Int} (h1 : -9223372036854775808 ≤ x) (h2 : x < 9223372036854775808) : x.bmod (2 ^ 64) = x := Int.bmod_eq_of_le (by omega) (by omega)
theorem ar_a64 {x y : Int64} (h1 : -9223372036854775808 ≤ x.toInt + y.toInt) (h2 : x.toInt + y.toInt < 9223372036854775808) : (x + y).toInt = x.toInt + y.toInt := by rw [Int64.toInt_add, ar_b64 h1 h2]
theorem ar_s64 {x y : Int64} (h1 : -9223372036854775808 ≤ x.toInt - y.toInt) (h2 : x.toInt - y.toInt < 9223372036854775808) : (x - y).toInt = x.toInt - y.toInt := by rw [Int64.toInt_sub, ar_b64 h1 h2]
theorem ar_m64 {x y : Int64} (h1 : -9223372036854775808 ≤ x.toInt * y.toInt) (h2 : x.toInt * y.toInt < 9223372036854775808) : (x * y).toInt = x.toInt * y.toInt := by rw [Int64.toInt_mul, ar_b64 h1 h2]
theorem ar_lo (x : Int64) : -9223372036854775808 ≤ x.toInt := by have h := Int64.le_toInt x; omega
theorem ar_hi (x : Int64) : x.toInt < 9223372036854775808 := by have h := Int64.toInt_lt x; omega
theorem ar_e {x : Int64} {y : Int32} (h : x.toInt = y.toInt) : x = y.toInt64 := Int64.toInt_inj.mp (by rw [h, Int32.toInt_toInt64])
theorem ar_c {x : Int64} {y : Int32} (h : x = y.toInt64) : x.toInt = y.toInt := by rw [h, Int32.toInt_toInt64]
theorem ar_n {x : Int64} (h1 : -2147483648 ≤ x.toInt) (h2 : x.toInt < 2147483648) : x.toInt32.toInt = x.toInt := by rw [Int64.toInt_toInt32, w_bm h1 h2]
theorem ar_mul {a b : Int} {A B : Nat} (h1 : -(A : Int) ≤ a) (h2 : a ≤ (A : Int)) (h3 : -(B : Int) ≤ b) (h4 : b ≤ (B : Int)) : -((A * B : Nat) : Int) ≤ a * b ∧ a * b ≤ ((A * B : Nat) : Int) := by
  have h5 : a.natAbs ≤ A := by omega
  have h6 : b.natAbs ≤ B := by omega
  have h7 := Nat.mul_le_mul h5 h6
  rw [← Int.natAbs_mul] at h7
  generalize A * B = C at h7 ⊢
  generalize a * b = c at h7 ⊢
  omega
theorem ar_dv {a b : Int} {A : Nat} (h1 : -(A : Int) ≤ a) (h2 : a ≤ (A : Int)) : -(A : Int) ≤ a / b ∧ a / b ≤ (A : Int) := by
  have h := Int.natAbs_ediv_le_natAbs a b
  generalize a / b = c at h ⊢
  omega
theorem ar_div {p q : Int64} (hq : 0 < q.toInt) : (F10_div p q).toInt = p.toInt / q.toInt := by
  obtain ⟨e, g1, g2⟩ := l_rem (p := p) hq
  have e1 : (p / q).toInt = p.toInt.tdiv q.toInt := Int64.toInt_div_of_ne_right _ _ (fun h => by rw [h] at hq; exact absurd hq (by decide))
  have e2 := Int.mul_tdiv_add_tmod p.toInt q.toInt
  have l1 := Int.tmod_lt_of_pos p.toInt hq
  have l2 := Int.lt_tmod_of_pos p.toInt hq
  have hp1 := ar_lo p
  have hp2 := ar_hi p
  have ht : p.toInt < 0 → p.toInt.tdiv q.toInt ≤ 0 := by
    intro h
    have h2 := Int.tdiv_nonneg (show 0 ≤ -p.toInt by omega) (show 0 ≤ q.toInt by omega)
    rw [Int.neg_tdiv] at h2
    omega
  have hq1 : (0 : Int64) < q := by
    rw [Int64.lt_iff_toInt_lt, show (0 : Int64).toInt = 0 from by decide]
    exact hq
  have hz : (0 : Int64) ≤ p - p / q * q ↔ 0 ≤ p.toInt.tmod q.toInt := by
    rw [l_0le, e]
  unfold F10_div
  rw [if_pos hq1]
  generalize p.toInt.tmod q.toInt = r at *
  generalize p.toInt.tdiv q.toInt = t at *
  by_cases h0 : 0 ≤ r
  · rw [if_pos (hz.mpr h0), e1]
    exact (((Int.ediv_emod_unique hq).mpr ⟨show r + q.toInt * t = p.toInt by omega, by omega, by omega⟩).1).symm
  · rw [if_neg (fun h => h0 (hz.mp h))]
    have h2 : p.toInt < 0 := by
      apply Classical.byContradiction
      intro h
      have := g1 (by omega)
      omega
    have h4 := ht h2
    have h5 := Int.mul_nonneg (show 0 ≤ q.toInt - 1 by omega) (show 0 ≤ -t by omega)
    have h6 : (q.toInt - 1) * (-t) = t - q.toInt * t := by
      rw [Int.sub_mul, Int.mul_neg, Int.one_mul]
      omega
    rw [h6] at h5
    rw [ar_s64 (by rw [e1, show (1 : Int64).toInt = 1 from by decide]; omega) (by rw [e1, show (1 : Int64).toInt = 1 from by decide]; omega), e1, show (1 : Int64).toInt = 1 from by decide]
    refine (((Int.ediv_emod_unique hq).mpr ⟨?_, show 0 ≤ r + q.toInt by omega, by omega⟩).1).symm
    rw [Int.mul_sub, Int.mul_one]
    omega
theorem el_in {n j : Nat} {x : SS} {d : Int32} (hj : j < n) (hn : n < 2 ^ 31) : F10_elementOr n x (nI j) d = x j := by
  unfold F10_elementOr
  rw [if_neg (w_i0 (by rw [nI_toInt (by omega)]; omega)), if_neg, nI_clamp (by omega)]
  rw [Int32.le_iff_toInt_le, nI_toInt hn, nI_toInt (by omega)]
  omega
theorem rp_in {n j : Nat} {x : SS} {v : Int32} (hj : j < n) (hn : n < 2 ^ 31) : F10_replace n x (nI j) v = upd x j v := by
  unfold F10_replace
  rw [if_neg (w_i0 (by rw [nI_toInt (by omega)]; omega)), if_neg, nI_clamp (by omega)]
  rw [Int32.le_iff_toInt_le, nI_toInt hn, nI_toInt (by omega)]
  omega
theorem w_ltI {a b : Int32} : a < b ↔ a.toInt < b.toInt := Int32.lt_iff_toInt_lt
theorem w_leI {a b : Int32} : a ≤ b ↔ a.toInt ≤ b.toInt := Int32.le_iff_toInt_le
theorem w_two {p a b : Int32} : (if p < a then false else (if b < p then false else true)) = true ↔ a.toInt ≤ p.toInt ∧ p.toInt ≤ b.toInt := by
  by_cases h1 : p < a
  · rw [if_pos h1]
    rw [w_ltI] at h1
    exact ⟨fun h => (by cases h), fun h => by omega⟩
  · rw [if_neg h1]
    rw [w_ltI] at h1
    by_cases h2 : b < p
    · rw [if_pos h2]
      rw [w_ltI] at h2
      exact ⟨fun h => (by cases h), fun h => by omega⟩
    · rw [if_neg h2]
      rw [w_ltI] at h2
      exact ⟨fun _ => (by omega), fun _ => rfl⟩
theorem w_twoE {p a b : Int32} : (if p < a then false else (if b ≤ p then false else true)) = true ↔ a.toInt ≤ p.toInt ∧ p.toInt < b.toInt := by
  by_cases h1 : p < a
  · rw [if_pos h1]
    rw [w_ltI] at h1
    exact ⟨fun h => (by cases h), fun h => by omega⟩
  · rw [if_neg h1]
    rw [w_ltI] at h1
    by_cases h2 : b ≤ p
    · rw [if_pos h2]
      rw [w_leI] at h2
      exact ⟨fun h => (by cases h), fun h => by omega⟩
    · rw [if_neg h2]
      rw [w_leI] at h2
      exact ⟨fun _ => (by omega), fun _ => rfl⟩
theorem ng_64 {x : Int32} (h : -2147483648 < x.toInt) : (-x).toInt64 = -x.toInt64 := by
  have h2 := w_hi x
  refine (ar_e ?_).symm
  rw [Int32.toInt_neg, w_bm (by omega) (by omega), Int64.toInt_neg, Int32.toInt_toInt64, ar_b64 (by omega) (by omega)]
theorem dv_p {p q : Int64} (hq : 0 < q.toInt) (hp : 0 ≤ p.toInt) : F10_div p q = p / q := by
  obtain ⟨e, g1, g2⟩ := l_rem (p := p) hq
  unfold F10_div
  rw [if_pos (by rw [Int64.lt_iff_toInt_lt, show (0 : Int64).toInt = 0 from by decide]; exact hq), if_pos (l_0le.mpr (by rw [e]; exact g1 hp))]
theorem el_i {n : Nat} {x : SS} {p d : Int32} (hn : n < 2 ^ 31) (h0 : 0 ≤ p.toInt) (h1 : p.toInt < (n : Int)) : F10_elementOr n x p d = x p.toNatClampNeg := by
  have e : p = nI p.toNatClampNeg := w_nat (w_i0 h0)
  have hl : p.toNatClampNeg < n := by
    unfold Int32.toNatClampNeg
    omega
  generalize p.toNatClampNeg = j at e hl ⊢
  rw [e]
  exact el_in hl hn
theorem rp_i {n : Nat} {x : SS} {p v : Int32} (hn : n < 2 ^ 31) (h0 : 0 ≤ p.toInt) (h1 : p.toInt < (n : Int)) : F10_replace n x p v = upd x p.toNatClampNeg v := by
  have e : p = nI p.toNatClampNeg := w_nat (w_i0 h0)
  have hl : p.toNatClampNeg < n := by
    unfold Int32.toNatClampNeg
    omega
  generalize p.toNatClampNeg = j at e hl ⊢
  rw [e]
  exact rp_in hl hn
