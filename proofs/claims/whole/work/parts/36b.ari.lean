/-! numbers that stay within -/
theorem ar_a32 {x y : Int32} (h1 : -2147483648 ≤ x.toInt + y.toInt) (h2 : x.toInt + y.toInt < 2147483648) : (x + y).toInt = x.toInt + y.toInt := by rw [Int32.toInt_add, w_bm h1 h2]
theorem ar_s32 {x y : Int32} (h1 : -2147483648 ≤ x.toInt - y.toInt) (h2 : x.toInt - y.toInt < 2147483648) : (x - y).toInt = x.toInt - y.toInt := by rw [Int32.toInt_sub, w_bm h1 h2]
theorem ar_m32 {x y : Int32} (h1 : -2147483648 ≤ x.toInt * y.toInt) (h2 : x.toInt * y.toInt < 2147483648) : (x * y).toInt = x.toInt * y.toInt := by rw [Int32.toInt_mul, w_bm h1 h2]
theorem ar_b64 {x : Int} (h1 : -9223372036854775808 ≤ x) (h2 : x < 9223372036854775808) : x.bmod (2 ^ 64) = x := Int.bmod_eq_of_le (by omega) (by omega)
theorem ar_a64 {x y : Int64} (h1 : -9223372036854775808 ≤ x.toInt + y.toInt) (h2 : x.toInt + y.toInt < 9223372036854775808) : (x + y).toInt = x.toInt + y.toInt := by rw [Int64.toInt_add, ar_b64 h1 h2]
theorem ar_s64 {x y : Int64} (h1 : -9223372036854775808 ≤ x.toInt - y.toInt) (h2 : x.toInt - y.toInt < 9223372036854775808) : (x - y).toInt = x.toInt - y.toInt := by rw [Int64.toInt_sub, ar_b64 h1 h2]
theorem ar_m64 {x y : Int64} (h1 : -9223372036854775808 ≤ x.toInt * y.toInt) (h2 : x.toInt * y.toInt < 9223372036854775808) : (x * y).toInt = x.toInt * y.toInt := by rw [Int64.toInt_mul, ar_b64 h1 h2]
theorem ar_lo (x : Int64) : -9223372036854775808 ≤ x.toInt := by have h := Int64.le_toInt x; omega
theorem ar_hi (x : Int64) : x.toInt < 9223372036854775808 := by have h := Int64.toInt_lt x; omega
theorem ar_e {x : Int64} {y : Int32} (h : x.toInt = y.toInt) : x = y.toInt64 := Int64.toInt_inj.mp (by rw [h, Int32.toInt_toInt64])
theorem ar_c {x : Int64} {y : Int32} (h : x = y.toInt64) : x.toInt = y.toInt := by rw [h, Int32.toInt_toInt64]
theorem ar_n {x : Int64} (h1 : -2147483648 ≤ x.toInt) (h2 : x.toInt < 2147483648) : x.toInt32.toInt = x.toInt := by rw [Int64.toInt_toInt32, w_bm h1 h2]
theorem ar_mul {a b : Int} {A B : Nat} (h1 : -(A : Int) ≤ a) (h2 : a ≤ (A : Int)) (h3 : -(B : Int) ≤ b) (h4 : b ≤ (B : Int)) : -((A * B : Nat) : Int) ≤ a * b ∧ a * b ≤ ((A * B : Nat) : Int) := by
  have h5 : a.natAbs ≤ A := by omega
  have h6 : b.natAbs ≤ B := by omega
  have h7 := Nat.mul_le_mul h5 h6
  rw [← Int.natAbs_mul] at h7
  generalize A * B = C at h7 ⊢
  generalize a * b = c at h7 ⊢
  omega
theorem ar_dv {a b : Int} {A : Nat} (h1 : -(A : Int) ≤ a) (h2 : a ≤ (A : Int)) : -(A : Int) ≤ a / b ∧ a / b ≤ (A : Int) := by
  have h := Int.natAbs_ediv_le_natAbs a b
  generalize a / b = c at h ⊢
  omega
/-- what the division says -/
theorem ar_div {p q : Int64} (hq : 0 < q.toInt) : (F11_div p q).toInt = p.toInt / q.toInt := by
  obtain ⟨e, g1, g2⟩ := l_rem (p := p) hq
  have e1 : (p / q).toInt = p.toInt.tdiv q.toInt := Int64.toInt_div_of_ne_right _ _ (fun h => by rw [h] at hq; exact absurd hq (by decide))
  have e2 := Int.mul_tdiv_add_tmod p.toInt q.toInt
  have l1 := Int.tmod_lt_of_pos p.toInt hq
  have l2 := Int.lt_tmod_of_pos p.toInt hq
  have hp1 := ar_lo p
  have hp2 := ar_hi p
  have ht : p.toInt < 0 → p.toInt.tdiv q.toInt ≤ 0 := by
    intro h
    have h2 := Int.tdiv_nonneg (show 0 ≤ -p.toInt by omega) (show 0 ≤ q.toInt by omega)
    rw [Int.neg_tdiv] at h2
    omega
  have hq1 : (0 : Int64) ≤ q := l_0le.mpr (by omega)
  have hz : (p - p / q * q = 0) ↔ p.toInt.tmod q.toInt = 0 := by
    rw [← Int64.toInt_inj, e]
    exact Iff.rfl
  have hs : (0 : Int64) ≤ p ↔ 0 ≤ p.toInt := l_0le
  unfold F11_div
  rw [decide_eq_true hq1]
  generalize p.toInt.tmod q.toInt = r at *
  generalize p.toInt.tdiv q.toInt = t at *
  by_cases h0 : r = 0
  · rw [if_pos (hz.mpr h0), e1]
    exact (((Int.ediv_emod_unique hq).mpr ⟨show 0 + q.toInt * t = p.toInt by omega, by omega, hq⟩).1).symm
  · rw [if_neg (fun h => h0 (hz.mp h))]
    by_cases h1 : 0 ≤ p.toInt
    · rw [decide_eq_true (hs.mpr h1), if_pos rfl, e1]
      have := g1 h1
      exact (((Int.ediv_emod_unique hq).mpr ⟨show r + q.toInt * t = p.toInt by omega, by omega, by omega⟩).1).symm
    · have h2 : p.toInt < 0 := by omega
      have h3 := g2 h2
      have h4 := ht h2
      rw [decide_eq_false (fun h => h1 (hs.mp h)), if_neg (by decide)]
      have h5 := Int.mul_nonneg (show 0 ≤ q.toInt - 1 by omega) (show 0 ≤ -t by omega)
      have h6 : (q.toInt - 1) * (-t) = t - q.toInt * t := by
        rw [Int.sub_mul, Int.mul_neg, Int.one_mul]
        omega
      rw [h6] at h5
      rw [ar_s64 (by rw [e1, show (1 : Int64).toInt = 1 from by decide]; omega) (by rw [e1, show (1 : Int64).toInt = 1 from by decide]; omega), e1, show (1 : Int64).toInt = 1 from by decide]
      refine (((Int.ediv_emod_unique hq).mpr ⟨?_, show 0 ≤ r + q.toInt by omega, by omega⟩).1).symm
      rw [Int.mul_sub, Int.mul_one]
      omega
/-! rows, and what lies within -/
theorem el_in {n j : Nat} {x : SS} {d : Int32} (hj : j < n) (hn : n < 2 ^ 31) : F10_elementOr n x (nI j) d = x j := by
  unfold F10_elementOr
  rw [if_neg (w_i0 (by rw [nI_toInt (by omega)]; omega)), if_neg, nI_clamp (by omega)]
  rw [Int32.le_iff_toInt_le, nI_toInt hn, nI_toInt (by omega)]
  omega
theorem rp_in {n j : Nat} {x : SS} {v : Int32} (hj : j < n) (hn : n < 2 ^ 31) : F10_replace n x (nI j) v = upd x j v := by
  unfold F10_replace
  rw [if_neg (w_i0 (by rw [nI_toInt (by omega)]; omega)), if_neg, nI_clamp (by omega)]
  rw [Int32.le_iff_toInt_le, nI_toInt hn, nI_toInt (by omega)]
  omega
theorem in_iff {p : Int32} {lo hi : Int64} : F11_in p.toInt64 lo hi = true ↔ lo.toInt ≤ p.toInt ∧ p.toInt ≤ hi.toInt := by
  refine ⟨w_in32, fun h => ?_⟩
  unfold F11_in
  rw [if_neg, if_neg]
  · rw [Int64.lt_iff_toInt_lt, Int32.toInt_toInt64]
    omega
  · rw [Int64.lt_iff_toInt_lt, Int32.toInt_toInt64]
    omega
theorem in_eq {b : Bool} {p : Int32} {lo hi : Int64} (h : b = true ↔ lo.toInt ≤ p.toInt ∧ p.toInt ≤ hi.toInt) : b = F11_in p.toInt64 lo hi := by
  rw [Bool.eq_iff_iff, h, in_iff]
theorem w_ltI {a b : Int32} : a < b ↔ a.toInt < b.toInt := Int32.lt_iff_toInt_lt
theorem w_leI {a b : Int32} : a ≤ b ↔ a.toInt ≤ b.toInt := Int32.le_iff_toInt_le
theorem w_two {p a b : Int32} : (if p < a then false else (if b < p then false else true)) = true ↔ a.toInt ≤ p.toInt ∧ p.toInt ≤ b.toInt := by
  by_cases h1 : p < a
  · rw [if_pos h1]
    rw [w_ltI] at h1
    exact ⟨fun h => (by cases h), fun h => by omega⟩
  · rw [if_neg h1]
    rw [w_ltI] at h1
    by_cases h2 : b < p
    · rw [if_pos h2]
      rw [w_ltI] at h2
      exact ⟨fun h => (by cases h), fun h => by omega⟩
    · rw [if_neg h2]
      rw [w_ltI] at h2
      exact ⟨fun _ => (by omega), fun _ => rfl⟩
theorem w_twoE {p a b : Int32} : (if p < a then false else (if b ≤ p then false else true)) = true ↔ a.toInt ≤ p.toInt ∧ p.toInt < b.toInt := by
  by_cases h1 : p < a
  · rw [if_pos h1]
    rw [w_ltI] at h1
    exact ⟨fun h => (by cases h), fun h => by omega⟩
  · rw [if_neg h1]
    rw [w_ltI] at h1
    by_cases h2 : b ≤ p
    · rw [if_pos h2]
      rw [w_leI] at h2
      exact ⟨fun h => (by cases h), fun h => by omega⟩
    · rw [if_neg h2]
      rw [w_leI] at h2
      exact ⟨fun _ => (by omega), fun _ => rfl⟩
theorem k_hour (p : Int32) : F8_isHour p = F11_isHour p := in_eq (w_twoE.trans (by
  rw [show (0 : Int32).toInt = 0 from by decide, show (24 : Int32).toInt = 24 from by decide, show (0 : Int64).toInt = 0 from by decide, show (23 : Int64).toInt = 23 from by decide]
  omega))
theorem k_tariff (p : Int32) : F8_isTariff p = F11_in p.toInt64 0 2 := in_eq (w_twoE.trans (by
  rw [show (0 : Int32).toInt = 0 from by decide, show (3 : Int32).toInt = 3 from by decide, show (0 : Int64).toInt = 0 from by decide, show (2 : Int64).toInt = 2 from by decide]
  omega))
theorem k_outdoor (p : Int32) : F8_isOutdoor p = F11_in p.toInt64 (-300) 400 := in_eq (w_two.trans Iff.rfl)
theorem k_price (p : Int32) : F8_isPrice p = F11_in p.toInt64 0 1000 := in_eq (w_two.trans Iff.rfl)
theorem k_supply (p : Int32) : F3_isSupply p = F11_in p.toInt64 150 600 := in_eq (w_two.trans Iff.rfl)
theorem k_litres (p : Int32) : F1_isCapacity p = F11_in p.toInt64 100 5000 := in_eq (w_two.trans Iff.rfl)
theorem k_filling (p : Int32) : F1_isFilling p = F11_in p.toInt64 0 700 := in_eq (w_two.trans Iff.rfl)
theorem k_code (p : Int32) : F9_isCode p = F11_in p.toInt64 32 126 := in_eq (w_two.trans Iff.rfl)
theorem g_i {x : Int64} {y : Int32} (h : x = y.toInt64) : y = x.toInt32 := by rw [h, Int32.toInt32_toInt64]
/-- an element, or what stands for none, on both sides -/
theorem el_e {n a : Nat} {x : SS} {f : Nat → Int64} {p d : Int32} {hi : Int64} (hn : n < 2 ^ 31) (hh : hi.toInt = (n : Int) - 1) (hf : ∀ j, j < n → f (a + j) = (x j).toInt64) : F10_elementOr n x p d = if F11_in p.toInt64 0 hi = true then (f (a + p.toNatClampNeg)).toInt32 else d := by
  by_cases h : F11_in p.toInt64 0 hi = true
  · have h1 := in_iff.mp h
    rw [show (0 : Int64).toInt = 0 from by decide] at h1
    have e : p = nI p.toNatClampNeg := w_nat (w_i0 h1.1)
    have hl : p.toNatClampNeg < n := by
      unfold Int32.toNatClampNeg
      omega
    rw [if_pos h, hf _ hl, Int32.toInt32_toInt64]
    rw [e]
    rw [nI_clamp (w_natlt p)]
    exact el_in hl hn
  · rw [if_neg h]
    have h1 := mt in_iff.mpr h
    rw [show (0 : Int64).toInt = 0 from by decide] at h1
    unfold F10_elementOr
    by_cases h2 : p < 0
    · rw [if_pos h2]
    · rw [if_neg h2, if_pos]
      rw [w_ltI, show (0 : Int32).toInt = 0 from by decide] at h2
      rw [w_leI, nI_toInt hn]
      omega
theorem ad_64 {x y : Int32} (h1 : -2147483648 ≤ x.toInt + y.toInt) (h2 : x.toInt + y.toInt < 2147483648) : x.toInt64 + y.toInt64 = (x + y).toInt64 := ar_e (by
  rw [ar_a32 h1 h2, ar_a64, Int32.toInt_toInt64, Int32.toInt_toInt64] <;> rw [Int32.toInt_toInt64, Int32.toInt_toInt64] <;> omega)
theorem sb_64 {x y : Int32} (h1 : -2147483648 ≤ x.toInt - y.toInt) (h2 : x.toInt - y.toInt < 2147483648) : x.toInt64 - y.toInt64 = (x - y).toInt64 := ar_e (by
  rw [ar_s32 h1 h2, ar_s64, Int32.toInt_toInt64, Int32.toInt_toInt64] <;> rw [Int32.toInt_toInt64, Int32.toInt_toInt64] <;> omega)
theorem ml_64 {x y : Int32} (h1 : -2147483648 ≤ x.toInt * y.toInt) (h2 : x.toInt * y.toInt < 2147483648) : x.toInt64 * y.toInt64 = (x * y).toInt64 := ar_e (by
  rw [ar_m32 h1 h2, ar_m64, Int32.toInt_toInt64, Int32.toInt_toInt64] <;> rw [Int32.toInt_toInt64, Int32.toInt_toInt64] <;> omega)
theorem ng_64 {x : Int32} (h : -2147483648 < x.toInt) : (-x).toInt64 = -x.toInt64 := by
  have h2 := w_hi x
  refine (ar_e ?_).symm
  rw [Int32.toInt_neg, w_bm (by omega) (by omega), Int64.toInt_neg, Int32.toInt_toInt64, ar_b64 (by omega) (by omega)]
theorem dv_p {p q : Int64} (hq : 0 < q.toInt) (hp : 0 ≤ p.toInt) : F10_div p q = p / q := by
  obtain ⟨e, g1, g2⟩ := l_rem (p := p) hq
  unfold F10_div
  rw [if_pos (by rw [Int64.lt_iff_toInt_lt, show (0 : Int64).toInt = 0 from by decide]; exact hq), if_pos (l_0le.mpr (by rw [e]; exact g1 hp))]
theorem mx_e {a z : Int64} : (if z < a then a else z) = (if a ≤ z then z else a) := by
  by_cases h : z < a
  · rw [if_pos h, if_neg (Int64.not_le.mpr h)]
  · rw [if_neg h, if_pos (Int64.not_lt.mp h)]
theorem mi_e {a z : Int64} : (if z < a then z else a) = (if z ≤ a then z else a) := by
  by_cases h : z < a
  · rw [if_pos h, if_pos (Int64.le_of_lt h)]
  · rw [if_neg h]
    by_cases h2 : z ≤ a
    · rw [if_pos h2]
      exact Int64.le_antisymm (Int64.not_lt.mp h) h2
    · rw [if_neg h2]
theorem el_i {n : Nat} {x : SS} {p d : Int32} (hn : n < 2 ^ 31) (h0 : 0 ≤ p.toInt) (h1 : p.toInt < (n : Int)) : F10_elementOr n x p d = x p.toNatClampNeg := by
  have e : p = nI p.toNatClampNeg := w_nat (w_i0 h0)
  have hl : p.toNatClampNeg < n := by
    unfold Int32.toNatClampNeg
    omega
  generalize p.toNatClampNeg = j at e hl ⊢
  rw [e]
  exact el_in hl hn
theorem rp_i {n : Nat} {x : SS} {p v : Int32} (hn : n < 2 ^ 31) (h0 : 0 ≤ p.toInt) (h1 : p.toInt < (n : Int)) : F10_replace n x p v = upd x p.toNatClampNeg v := by
  have e : p = nI p.toNatClampNeg := w_nat (w_i0 h0)
  have hl : p.toNatClampNeg < n := by
    unfold Int32.toNatClampNeg
    omega
  generalize p.toNatClampNeg = j at e hl ⊢
  rw [e]
  exact rp_in hl hn
theorem c_eq {a b : Nat} (ha : a < 2 ^ 31) (hb : b < 2 ^ 31) : (nI a = nI b) = (a = b) := propext ⟨fun h => by
  have := congrArg Int32.toInt h
  rw [nI_toInt ha, nI_toInt hb] at this
  omega, fun h => by rw [h]⟩
theorem mn_c {x b : Int64} {y a : Int32} (h : x = y.toInt64) (hb : b = a.toInt64) : x = b ↔ y = a := by
  rw [h, hb]
  refine ⟨fun e => ?_, fun e => by rw [e]⟩
  have := congrArg Int64.toInt32 e
  rw [Int32.toInt32_toInt64, Int32.toInt32_toInt64] at this
  exact this
