/-! the pump's and the accounts' count of a minute -/
theorem ns_ok {z : SP} {t s : Int32} (ht : 0 ≤ t.toInt) : ∃ k, k < 60 ∧ F6_noteStart z t s = (z.1, z.2.1, z.2.2.1, z.2.2.2.1, z.2.2.2.2.1, z.2.2.2.2.2.1 + (s - z.2.2.2.2.2.2 k), upd z.2.2.2.2.2.2 k s) := by
  have e : t = nI t.toNatClampNeg := w_nat (w_i0 ht)
  have hl := w_natlt t
  generalize t.toNatClampNeg = n at e hl
  have hm : n % 60 < 60 := Nat.mod_lt _ (by omega)
  have er : t - t / (60 : Int32) * (60 : Int32) = nI (n % 60) := by
    rw [e]
    exact pk_rem (a := n) (d := 60) (by omega) (by omega) (by omega)
  refine ⟨n % 60, hm, ?_⟩
  unfold F6_noteStart K6_noteStart_1
  rw [er, el_in hm (by decide), rp_in hm (by decide)]
theorem ca_ok {A : SA} {r : Int32} (h0 : 0 ≤ r.toInt) (h1 : r.toInt ≤ 11) : ∃ k, k < 12 ∧ r = nI k ∧ (F0_countMinute A r).1 = upd A.1 k (A.1 k + (1 : Int32)) ∧ (F0_countMinute A r).2.1 = r ∧ (F0_countMinute A r).2.2.1 = A.2.2.1 + bI (decide (r = (11 : Int32))) ∧ (F0_countMinute A r).2.2.2.1 = A.2.2.2.1 + bI (decide (r = (4 : Int32))) ∧ (F0_countMinute A r).2.2.2.2 = A.2.2.2.2 := by
  have e : r = nI r.toNatClampNeg := w_nat (w_i0 h0)
  have hl : r.toNatClampNeg < 12 := by
    unfold Int32.toNatClampNeg
    omega
  generalize r.toNatClampNeg = k at e hl
  subst e
  refine ⟨k, hl, rfl, ?_⟩
  unfold F0_countMinute K0_countMinute_1
  rw [el_in hl (by decide), rp_in hl (by decide)]
  by_cases c1 : nI k = (11 : Int32)
  · rw [if_pos c1, decide_eq_true c1, c1]
    refine ⟨rfl, rfl, rfl, ?_, rfl⟩
    show A.2.2.2.1 = A.2.2.2.1 + bI (decide ((11 : Int32) = 4))
    rw [show bI (decide ((11 : Int32) = 4)) = 0 from by decide]
    grind
  · rw [if_neg c1, decide_eq_false c1]
    by_cases c2 : nI k = (4 : Int32)
    · rw [if_pos c2, decide_eq_true c2, c2]
      refine ⟨rfl, rfl, ?_, rfl, rfl⟩
      show A.2.2.1 = A.2.2.1 + (0 : Int32)
      grind
    · rw [if_neg c2, decide_eq_false c2]
      refine ⟨rfl, rfl, ?_, ?_, rfl⟩
      · show A.2.2.1 = A.2.2.1 + (0 : Int32)
        grind
      · show A.2.2.2.1 = A.2.2.2.1 + (0 : Int32)
        grind
theorem bI_t (b : Bool) : 0 ≤ (bI b).toInt ∧ (bI b).toInt ≤ 1 := by cases b <;> decide
/-- starts, frost and the bits of the hour, behind the decision -/
theorem st_F {u : PlS} (hz : (pP u).1 = 0 ∨ (pP u).1 = 1 ∨ (pP u).1 = 2) (ht0 : 0 ≤ (pT u).toInt) (ht1 : (pT u).toInt < 100000) (hF : iF (pP u) (pA u) (pT u).toInt) : (0 ≤ (m4 u).2.2.2.2.1.toInt ∧ (m4 u).2.2.2.2.1.toInt ≤ (pT u).toInt) ∧ (∀ j, j < 60 → 0 ≤ ((m4 u).2.2.2.2.2.2 j).toInt ∧ ((m4 u).2.2.2.2.2.2 j).toInt ≤ 1) ∧ (m4 u).2.2.2.2.2.1.toInt = sI (m4 u).2.2.2.2.2.2 60 ∧ (m4 u).2.2.2.2.2.1.toInt ≤ (m5 u).2.2.1.toInt ∧ (pA u).2.2.1.toInt ≤ (m5 u).2.2.1.toInt ∧ (m5 u).2.2.1.toInt ≤ (pA u).2.2.1.toInt + 1 := by
  obtain ⟨hf, hb, hr, hrs, hs0, hs1⟩ := hF
  obtain ⟨e1, e2, e3⟩ := ed_k (pP u) (F7_valueOf (pS u) (11 : Int32)) hz
  obtain ⟨-, hr0, hr1⟩ := mr_ok hz
  have o1 := ob_k (m1 u) (mR u)
  obtain ⟨k, hk, en⟩ := ns_ok (z := F6_obey (m1 u) (mR u)) (t := pT u) (s := bI (decide (mR u = (11 : Int32)))) ht0
  obtain ⟨-, -, -, -, -, es, -, -⟩ := ca_ok (A := pA u) hr0 hr1
  have em : m4 u = _ := en
  have e5 : (m5 u).2.2.1 = _ := es
  have h1 : (F6_obey (m1 u) (mR u)).2.2.2.2.1 = (m1 u).2.2.2.2.1 := congrArg Prod.fst o1
  have h2 : (F6_obey (m1 u) (mR u)).2.2.2.2.2 = (pP u).2.2.2.2.2 := (congrArg Prod.snd o1).trans e3
  have h3 : (F6_obey (m1 u) (mR u)).2.2.2.2.2.1 = (pP u).2.2.2.2.2.1 := congrArg Prod.fst h2
  have h4 : (F6_obey (m1 u) (mR u)).2.2.2.2.2.2 = (pP u).2.2.2.2.2.2 := congrArg Prod.snd h2
  rw [em, e5]
  show (0 ≤ (F6_obey (m1 u) (mR u)).2.2.2.2.1.toInt ∧ (F6_obey (m1 u) (mR u)).2.2.2.2.1.toInt ≤ _) ∧ (∀ j, j < 60 → 0 ≤ (upd (F6_obey (m1 u) (mR u)).2.2.2.2.2.2 k (bI (decide (mR u = (11 : Int32)))) j).toInt ∧ (upd (F6_obey (m1 u) (mR u)).2.2.2.2.2.2 k (bI (decide (mR u = (11 : Int32)))) j).toInt ≤ 1) ∧ ((F6_obey (m1 u) (mR u)).2.2.2.2.2.1 + (bI (decide (mR u = (11 : Int32))) - (F6_obey (m1 u) (mR u)).2.2.2.2.2.2 k)).toInt = sI (upd (F6_obey (m1 u) (mR u)).2.2.2.2.2.2 k (bI (decide (mR u = (11 : Int32))))) 60 ∧ ((F6_obey (m1 u) (mR u)).2.2.2.2.2.1 + (bI (decide (mR u = (11 : Int32))) - (F6_obey (m1 u) (mR u)).2.2.2.2.2.2 k)).toInt ≤ _ ∧ _
  rw [h1, h3, h4, sI_upd, if_pos hk]
  have hbk := hb k hk
  have hbi := bI_t (decide (mR u = (11 : Int32)))
  have hsb := sI_bd hb 60 (by omega)
  generalize bI (decide (mR u = (11 : Int32))) = s at *
  have q1 : (s - (pP u).2.2.2.2.2.2 k).toInt = s.toInt - ((pP u).2.2.2.2.2.2 k).toInt := ar_s32 (by omega) (by omega)
  have q2 : ((pP u).2.2.2.2.2.1 + (s - (pP u).2.2.2.2.2.2 k)).toInt = (pP u).2.2.2.2.2.1.toInt + (s.toInt - ((pP u).2.2.2.2.2.2 k).toInt) := by
    rw [ar_a32 (by rw [q1]; omega) (by rw [q1]; omega), q1]
  have q3 : ((pA u).2.2.1 + s).toInt = (pA u).2.2.1.toInt + s.toInt := ar_a32 (by omega) (by omega)
  rw [q2, q3]
  refine ⟨?_, ?_, by omega, by omega, by omega, by omega⟩
  · have e2 : (m1 u).2.2.2.2.1 = (pP u).2.2.2.2.1 ∨ (m1 u).2.2.2.2.1 = 0 := e2
    rcases e2 with h | h
    · rw [h]; exact hf
    · rw [h]; exact ⟨by decide, ht0⟩
  · intro j hj
    unfold upd
    split
    · exact hbi
    · exact hb j hj
/-- the count by reasons behind the decision -/
theorem st_A {u : PlS} (hz : (pP u).1 = 0 ∨ (pP u).1 = 1 ∨ (pP u).1 = 2) (hA : iA (pA u) (pT u)) : iA (m5 u) (pT u + (1 : Int32)) ∧ (m5 u).2.1 = mR u ∧ (m5 u).2.2.2.2 = (pA u).2.2.2.2 := by
  obtain ⟨h1, h2, h3⟩ := hA
  obtain ⟨-, hr0, hr1⟩ := mr_ok hz
  obtain ⟨k, hk, ek, a1, a2, a3, a4, a5⟩ := ca_ok (A := pA u) hr0 hr1
  have a1 : (m5 u).1 = _ := a1
  have a3 : (m5 u).2.2.1 = _ := a3
  have a4 : (m5 u).2.2.2.1 = _ := a4
  refine ⟨⟨?_, ?_, ?_⟩, a2, a5⟩
  · rw [a1, s32_upd, if_pos hk, h1]
  · rw [a3, a1, h2]
    unfold upd
    by_cases c : mR u = (11 : Int32)
    · rw [decide_eq_true c]
      have : k = 11 := by
        have := congrArg Int32.toInt (ek.symm.trans c)
        rw [nI_toInt (by omega), show (11 : Int32).toInt = 11 from by decide] at this
        omega
      subst this
      rw [if_pos rfl]
      rfl
    · rw [decide_eq_false c, if_neg (fun h => c (by rw [ek, ← h]; rfl))]
      show (pA u).1 11 + (0 : Int32) = _
      grind
  · rw [a4, a1, h3]
    unfold upd
    by_cases c : mR u = (4 : Int32)
    · rw [decide_eq_true c]
      have : k = 4 := by
        have := congrArg Int32.toInt (ek.symm.trans c)
        rw [nI_toInt (by omega), show (4 : Int32).toInt = 4 from by decide] at this
        omega
      subst this
      rw [if_pos rfl]
      rfl
    · rw [decide_eq_false c, if_neg (fun h => c (by rw [ek, ← h]; rfl))]
      show (pA u).1 4 + (0 : Int32) = _
      grind
