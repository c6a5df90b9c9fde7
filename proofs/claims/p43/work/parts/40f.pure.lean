/-! a step of a minute, and what it leaves -/
theorem px_s (m : Int32) (v : PlS) : pS (pXx m v) = pS v ∧ pW (pXx m v) = pW v ∧ pK (pXx m v) = pK v ∧ pC (pXx m v) = pC v ∧ pT (pXx m v) = pT v := by
  unfold pXx
  split
  · by_cases c : F7_valueOf (pS v) (9 : Int32) ≤ (pC v).1
    · rw [pr_a c]; exact ⟨rfl, rfl, rfl, rfl, rfl⟩
    · rw [pr_b c]; exact ⟨rfl, rfl, rfl, rfl, rfl⟩
  · split
    · rw [df_eq]; exact ⟨rfl, rfl, rfl, rfl, rfl⟩
    · exact ⟨rfl, rfl, rfl, rfl, rfl⟩
theorem sm_s (u : PlS) : pS (F5_simulateMinute u) = pS u ∧ pW (F5_simulateMinute u) = pW u ∧ pK (F5_simulateMinute u) = pK u ∧ pC (F5_simulateMinute u) = pC u ∧ pT (F5_simulateMinute u) = pT u + (1 : Int32) := by
  obtain ⟨vS, vW, vK, -, -, -, vC, vT⟩ := sm_p u
  obtain ⟨x1, x2, x3, x4, x5⟩ := px_s (m4 u).1 (mV u)
  rw [← mX_e] at x1 x2 x3 x4 x5
  have y1 : pS (mV u) = pS u := by unfold mV; rfl
  have y2 : pW (mV u) = pW u := by unfold mV; rfl
  have y3 : pK (mV u) = pK u := by unfold mV; rfl
  have y4 : pC (mV u) = pC u := by unfold mV; rfl
  have y5 : pT (mV u) = pT u := by unfold mV; rfl
  exact ⟨by rw [vS, x1, y1], by rw [vW, x2, y2], by rw [vK, x3, y3], by rw [vC, x4, y4], by rw [vT, x5, y5]⟩
def st1 (u : PlS) : PlS := F5_simulateMinute (wC u (cnd u (hr (pT u))))
def stN : Nat → PlS → PlS
  | 0, u => u
  | n + 1, u => st1 (stN n u)
theorem stN_1 (n : Nat) (u : PlS) : stN (n + 1) u = stN n (st1 u) := by
  induction n with
  | zero => rfl
  | succ n ih =>
    show st1 (stN (n + 1) u) = st1 (stN n (st1 u))
    rw [ih]
theorem st1_s (u : PlS) : pS (st1 u) = pS u ∧ pW (st1 u) = pW u ∧ pK (st1 u) = pK u ∧ pC (st1 u) = cnd u (hr (pT u)) ∧ pT (st1 u) = pT u + (1 : Int32) := by
  have h := sm_s (wC u (cnd u (hr (pT u))))
  exact h
theorem stN_s (n : Nat) (u : PlS) : pS (stN n u) = pS u ∧ pW (stN n u) = pW u ∧ pK (stN n u) = pK u ∧ pT (stN n u) = pT u + nI n := by
  induction n with
  | zero => exact ⟨rfl, rfl, rfl, by show pT u = pT u + (0 : Int32); grind⟩
  | succ n ih =>
    obtain ⟨h1, h2, h3, -, h5⟩ := st1_s (stN n u)
    show pS (st1 (stN n u)) = _ ∧ pW (st1 (stN n u)) = _ ∧ pK (st1 (stN n u)) = _ ∧ pT (st1 (stN n u)) = _
    obtain ⟨g1, g2, g3, g5⟩ := ih
    refine ⟨h1.trans g1, h2.trans g2, h3.trans g3, ?_⟩
    rw [h5, g5, ← nI_1]
    grind
theorem cnd_c {u v : PlS} (h1 : pS u = pS v) (h2 : pW u = pW v) (h3 : pK u = pK v) (h : Int32) : cnd u h = cnd v h := by
  rw [cnd_f u, cnd_f v, h1, h2, h3]
theorem st1_wC (u : PlS) (c : SC) : st1 (wC u c) = st1 u := by
  unfold st1
  have e1 : pT (wC u c) = pT u := rfl
  have e2 : cnd (wC u c) (hr (pT u)) = cnd u (hr (pT u)) := cnd_c rfl rfl rfl _
  rw [e1, e2]
  rfl
theorem stN_wC {n : Nat} (hn : 1 ≤ n) (u : PlS) (c : SC) : stN n (wC u c) = stN n u := by
  obtain ⟨m, rfl⟩ : ∃ m, n = m + 1 := ⟨n - 1, by omega⟩
  rw [stN_1, stN_1, st1_wC]
/-- the hour, as a number -/
theorem hr_n {n : Nat} (hn : n < 2 ^ 31) : hr (nI n) = nI (n / 60 % 24) := by
  unfold hr
  have e1 : nI n / (60 : Int32) = nI (n / 60) := pk_div (a := n) (d := 60) hn (by omega) (by omega)
  rw [e1]
  exact pk_rem (a := n / 60) (d := 24) (by omega) (by omega) (by omega)
theorem m60_n {n : Nat} (hn : n < 2 ^ 31) : nI n - nI n / (60 : Int32) * (60 : Int32) = nI (n % 60) := pk_rem (a := n) (d := 60) hn (by omega) (by omega)
theorem nat_n {x : Int32} (h : 0 ≤ x.toInt) : ∃ n : Nat, x = nI n ∧ n < 2 ^ 31 ∧ x.toInt = (n : Int) := by
  have e : x = nI x.toNatClampNeg := w_nat (w_i0 h)
  have hl := w_natlt x
  refine ⟨x.toNatClampNeg, e, hl, ?_⟩
  have := nI_toInt hl
  rw [← e] at this
  exact this
/-! an advance is so many steps -/
theorem wC_eta (v : PlS) : wC v (pC v) = v := rfl
def rcd (v : PlS) : PlS := wC v (cnd v (hr (pT v)))
theorem ad_B {u v : PlS} {p i : Nat} (hq : i = 0 ∨ ∃ w, pS v = pS w ∧ pW v = pW w ∧ pK v = pK w ∧ pC v = cnd w (hr (pT w)) ∧ pT v = pT w + (1 : Int32) ∧ 0 ≤ (pT w).toInt ∧ (pT w).toInt < 2147483647) : B5_advance_7 u p i v = rcd v := by
  have hr1 : F5_readConditions v (((pT v) / (60 : Int32)) - ((pT v) / (60 : Int32)) / (24 : Int32) * (24 : Int32)) = rcd v := rfl
  unfold B5_advance_7 K5_advance_1 K5_advance_2
  by_cases c0 : i = 0
  · rw [if_pos c0]; exact hr1
  · rw [if_neg c0]
    by_cases c1 : (pT v) - (pT v) / (60 : Int32) * (60 : Int32) = (0 : Int32)
    · rw [if_pos c1]; exact hr1
    · rw [if_neg c1]
      obtain ⟨w, e1, e2, e3, e4, e5, h0, h1⟩ := hq.resolve_left c0
      obtain ⟨n, en, hn, hnt⟩ := nat_n h0
      have ev : pT v = nI (n + 1) := by rw [e5, en, nI_1]
      have hn1 : n + 1 < 2 ^ 31 := by omega
      rw [ev, m60_n hn1] at c1
      have c2 : ¬ (n + 1) % 60 = 0 := fun h => c1 (by rw [h]; rfl)
      have eh : hr (pT v) = hr (pT w) := by
        rw [ev, en, hr_n hn1, hr_n hn]
        congr 2
        omega
      unfold rcd
      rw [eh, cnd_c e1 e2 e3, ← e4]
      exact (wC_eta v).symm
theorem ad_L {u : PlS} {p : Nat} : ∀ (fu i : Nat) (v : PlS), i ≤ p → p - i < fu → (i = 0 ∨ ∃ w, pS v = pS w ∧ pW v = pW w ∧ pK v = pK w ∧ pC v = cnd w (hr (pT w)) ∧ pT v = pT w + (1 : Int32) ∧ 0 ≤ (pT w).toInt ∧ (pT w).toInt < 2147483647) → 0 ≤ (pT v).toInt → (pT v).toInt + ((p - i : Nat) : Int) < 2147483647 → L5_advance_2 u p fu i v = (p, stN (p - i) v) := by
  intro fu
  induction fu with
  | zero => intro i v _ h; exact absurd h (by omega)
  | succ fu ih =>
    intro i v hi hm hq h0 h1
    unfold L5_advance_2
    by_cases c : p ≤ i
    · rw [if_pos c]
      obtain rfl : i = p := by omega
      rw [Nat.sub_self]
      rfl
    · rw [if_neg c]
      unfold K5_advance_3 K5_advance_4
      rw [ad_B hq]
      have es : F5_simulateMinute (rcd v) = st1 v := rfl
      rw [es]
      have e9 : p - (i + 1) + 1 = p - i := by clear hq; omega
      obtain ⟨s1, s2, s3, s4, s5⟩ := st1_s v
      have et : (pT v + (1 : Int32)).toInt = (pT v).toInt + 1 := ar_a32 (by rw [show (1 : Int32).toInt = 1 from by decide]; omega) (by rw [show (1 : Int32).toInt = 1 from by decide]; omega)
      rw [ih (i + 1) (st1 v) (by omega) (by omega) (Or.inr ⟨v, s1, s2, s3, s4, s5, h0, by omega⟩) (by rw [s5, et]; omega) (by rw [s5, et]; omega)]
      rw [← stN_1, e9]
theorem ad_eq {u : PlS} {n : Nat} (h0 : 0 ≤ (pT u).toInt) (h1 : (pT u).toInt + (n : Int) < 2147483647) : F5_advance u n = stN n u := by
  unfold F5_advance K5_advance_5
  rw [ad_L (n + 1) 0 u (by omega) (by omega) (Or.inl rfl) h0 (by rw [Nat.sub_zero]; exact h1)]
  rfl
/-! what the weather and the settings make of an hour -/
theorem dm_v {u : PlS} (hS : iS (pS u)) (hW : iW (pW u)) {k : Nat} (hk : k < 24) : (F5_demandIn u (nI k)).toInt = (if 0 < (((pS u 15).toInt - ((pW u).1 k).toInt) * (pS u 16).toInt) / 10 then (((pS u 15).toInt - ((pW u).1 k).toInt) * (pS u 16).toInt) / 10 else 0) ∧ ((pS u 15 - (pW u).1 k) * pS u 16).toInt = ((pS u 15).toInt - ((pW u).1 k).toInt) * (pS u 16).toInt ∧ -300000 ≤ ((pS u 15).toInt - ((pW u).1 k).toInt) * (pS u 16).toInt ∧ ((pS u 15).toInt - ((pW u).1 k).toInt) * (pS u 16).toInt ≤ 600000 := by
  obtain ⟨-, -, -, -, -, b15, b16⟩ := iS_b hS
  have hw := hW.1 k hk
  have e15 : F7_valueOf (pS u) (15 : Int32) = pS u 15 := vl_i (j := 15) (by omega)
  have e16 : F7_valueOf (pS u) (16 : Int32) = pS u 16 := vl_i (j := 16) (by omega)
  have es : (pS u 15 - (pW u).1 k).toInt = (pS u 15).toInt - ((pW u).1 k).toInt := ar_s32 (by omega) (by omega)
  have hu : ((pS u 15).toInt - ((pW u).1 k).toInt) * (pS u 16).toInt ≤ 600 * (pS u 16).toInt := Int.mul_le_mul_of_nonneg_right (by omega) (by omega)
  have hl : -300 * (pS u 16).toInt ≤ ((pS u 15).toInt - ((pW u).1 k).toInt) * (pS u 16).toInt := Int.mul_le_mul_of_nonneg_right (by omega) (by omega)
  have em : ((pS u 15 - (pW u).1 k) * pS u 16).toInt = ((pS u 15).toInt - ((pW u).1 k).toInt) * (pS u 16).toInt := by
    rw [ar_m32 (by rw [es]; omega) (by rw [es]; omega), es]
  unfold F5_demandIn
  rw [e15, e16, el_in hk (by decide)]
  have ed : (F10_div (((pS u 15 - (pW u).1 k) * pS u 16).toInt64) 10).toInt = (((pS u 15).toInt - ((pW u).1 k).toInt) * (pS u 16).toInt) / 10 := by
    rw [ar_div (by decide), Int32.toInt_toInt64, em, show (10 : Int64).toInt = 10 from by decide]
  generalize ((pS u 15).toInt - ((pW u).1 k).toInt) * (pS u 16).toInt = P at *
  have en : (F10_div (((pS u 15 - (pW u).1 k) * pS u 16).toInt64) 10).toInt32.toInt = P / 10 := by
    rw [ar_n (by rw [ed]; omega) (by rw [ed]; omega), ed]
  refine ⟨?_, em, by omega, by omega⟩
  generalize (F10_div (((pS u 15 - (pW u).1 k) * pS u 16).toInt64) 10).toInt32 = w at en ⊢
  by_cases c : (0 : Int32) < w
  · rw [if_pos c]
    rw [w_ltI, en, show (0 : Int32).toInt = 0 from by decide] at c
    rw [if_pos c, en]
  · rw [if_neg c]
    rw [w_ltI, en, show (0 : Int32).toInt = 0 from by decide] at c
    rw [if_neg c]
    decide
theorem cn_dem (u : PlS) (h : Int32) : (cnd u h).2.2.2.1 = F5_demandIn u h := by unfold cnd F5_readConditions F5_demandIn; rfl
theorem cn_out (u : PlS) (h : Int32) : (cnd u h).1 = F10_elementOr 24 (pW u).1 h 0 := by unfold cnd F5_readConditions; rfl
theorem cn_pri (u : PlS) (h : Int32) : (cnd u h).2.2.1 = F10_elementOr 3 (pW u).2.2 (F10_elementOr 24 (pW u).2.1 h 1) 0 := by unfold cnd F5_readConditions; rfl
theorem cn_ok {u : PlS} (hS : iS (pS u)) (hW : iW (pW u)) {k : Nat} (hk : k < 24) : iC (cnd u (nI k)) := by
  unfold iC
  rw [cn_dem, cn_out, cn_pri, el_in hk (by decide), el_in hk (by decide)]
  have ht := hW.2.1 k hk
  obtain ⟨d1, -, d3, d4⟩ := dm_v hS hW hk
  obtain ⟨n, en, hn, hnt⟩ := nat_n ht.1
  refine ⟨hW.1 k hk, ?_, ?_⟩
  · rw [en, el_in (show n < 3 by omega) (by decide)]
    exact hW.2.2 n (by omega)
  · rw [d1]
    generalize ((pS u 15).toInt - ((pW u).1 k).toInt) * (pS u 16).toInt = P at *
    split <;> omega
theorem hr_ok {t : Int32} (h0 : 0 ≤ t.toInt) : ∃ k, k < 24 ∧ hr t = nI k := by
  obtain ⟨n, en, hn, -⟩ := nat_n h0
  exact ⟨n / 60 % 24, Nat.mod_lt _ (by omega), by rw [en, hr_n hn]⟩
theorem de_in {u : PlS} {k : Nat} (hk : k < 24) : F10_demand u (nI k) = F5_demandIn u (nI k) := by
  unfold F10_demand F8_isHour
  rw [if_pos]
  rw [if_neg (w_i0 (by rw [nI_toInt (by omega)]; omega)), if_neg (by rw [w_leI, nI_toInt (by omega), show (24 : Int32).toInt = 24 from by decide]; omega)]
/-- a step: what always holds, the accounts -/
theorem st_ok {u : PlS} (hI : Iv u) (ht : (pT u).toInt < 100000) : Iv (st1 u) ∧ F10_stored (st1 u) - F10_stored u = F12_net (st1 u) - F12_net u ∧ (F10_drawn (st1 u) + F10_unmet (st1 u)) - (F10_drawn u + F10_unmet u) = (F10_demand u (hr (pT u))).toInt64 ∧ (F10_starts u).toInt ≤ (F10_starts (st1 u)).toInt := by
  obtain ⟨k, hk, ek⟩ := hr_ok hI.2.2.2.1.1
  have hC : iC (cnd u (hr (pT u))) := by rw [ek]; exact cn_ok hI.1 hI.2.1 hk
  obtain ⟨-, g1, g2, g3, g4⟩ := sm_ok (u := wC u (cnd u (hr (pT u)))) hI hC ht
  have e1 : ((cnd u (hr (pT u))).2.2.2.1) = F10_demand u (hr (pT u)) := by rw [cn_dem, ek, de_in hk]
  rw [← e1]
  exact ⟨g1, g2, g3, g4⟩
theorem stN_ok {u : PlS} (hI : Iv u) : ∀ n : Nat, (pT u).toInt + (n : Int) ≤ 100000 → Iv (stN n u) ∧ F10_stored (stN n u) - F10_stored u = F12_net (stN n u) - F12_net u ∧ (F10_starts u).toInt ≤ (F10_starts (stN n u)).toInt ∧ (pT (stN n u)).toInt = (pT u).toInt + (n : Int) := by
  intro n
  induction n with
  | zero =>
    intro _
    refine ⟨hI, ?_, Int.le_refl _, by show (pT u).toInt = (pT u).toInt + ((0 : Nat) : Int); omega⟩
    show F10_stored u - F10_stored u = F12_net u - F12_net u
    grind
  | succ n ih =>
    intro h
    have h0 := hI.2.2.2.1.1
    obtain ⟨g1, g2, g3, g4⟩ := ih (by omega)
    obtain ⟨k1, k2, k3, k4⟩ := st_ok g1 (by rw [g4]; omega)
    have e := (st1_s (stN n u)).2.2.2.2
    show Iv (st1 (stN n u)) ∧ F10_stored (st1 (stN n u)) - F10_stored u = F12_net (st1 (stN n u)) - F12_net u ∧ (F10_starts u).toInt ≤ (F10_starts (st1 (stN n u))).toInt ∧ (pT (st1 (stN n u))).toInt = _
    generalize st1 (stN n u) = w at *
    generalize stN n u = v at *
    refine ⟨k1, ?_, by omega, ?_⟩
    · grind
    · rw [e, ar_a32 (by rw [show (1 : Int32).toInt = 1 from by decide]; omega) (by rw [show (1 : Int32).toInt = 1 from by decide]; omega), g4, show (1 : Int32).toInt = 1 from by decide]
      omega
