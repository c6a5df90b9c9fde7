/-- the class's reader behind an entry, told by the pivot -/
def cR (y : Bool × ST) (g : SS) (n : Nat) (q : Bool × Nat × Int32 × Int32 × Int32 × Int32) : Prop := y.1 = q.1 ∧ ∃ r, y.2 = cT g n q.2.1 r ∧ (q.1 = true → r = q.2.2)
theorem ctl1 (x0 : ST) (w0 : Int32 × ST) (w1 : Bool × ST) {g : SS} {n a : Nat} {f t d r : Int32} (hn : n ≤ 100) (ha : a ≤ n) (hg : cOk g n) : cR (K9_readEntry_3 x0 w0 w1 (F9_accept (cT g n a (f, t, d, r)) 58)) g n (pTl g n a f t) := by
  unfold pTl
  by_cases c1 : pk g n a = 58
  · have h1 := pk_lt' c1 (by decide)
    rw [ac_pos hn ha hg (by decide) c1, if_pos c1]
    unfold K9_readEntry_3
    rw [if_pos rfl]
    have e45 : F9_accept (cT g n (a + 1) (f, t, d, r)) 45 = (decide (pk g n (a + 1) = 45), cT g n (pGa g n (a + 1)) (f, t, d, r)) := by
      unfold pGa
      by_cases c : pk g n (a + 1) = 45
      · rw [ac_pos hn h1 hg (by decide) c, if_pos c, decide_eq_true c]
      · rw [ac_neg hn h1 hg (by decide) c, if_neg c, decide_eq_false c]
    have hGa : pGa g n (a + 1) ≤ n := by
      unfold pGa
      split
      · rename_i c; exact pk_lt' c (by decide)
      · exact h1
    show cR (K9_readEntry_4 x0 w0 w1 _ (F9_accept (cT g n (a + 1) (f, t, d, r)) 45)) g n _
    rw [e45]
    unfold K9_readEntry_4
    have hZ := pZ_ok g n (a + 1) h1
    unfold pZ at hZ ⊢
    by_cases c2 : pD g n (pGa g n (a + 1)) 0 9 = true
    · obtain ⟨e1, e2⟩ := rn_pos (r := (f, t, d, r)) hn hGa hg c2
      simp only [if_pos c2] at hZ ⊢
      rw [e1]
      unfold K9_readEntry_5
      rw [if_pos e2]
      generalize hN : pLo g n 4 1 (pGa g n (a + 1) + 1) (pk g n (pGa g n (a + 1)) - (48 : Int32)) = N at hZ e2 ⊢
      have hsg : (if decide (pk g n (a + 1) = 45) = true then -N.2 else N.2) = (if pk g n (a + 1) = 45 then -N.2 else N.2) := by
        by_cases c : pk g n (a + 1) = 45
        · rw [decide_eq_true c, if_pos rfl, if_pos c]
        · rw [decide_eq_false c, if_neg Bool.false_ne_true, if_neg c]
      have hLa := pLa_ok g n N.1 hZ.2
      show cR (K9_readEntry_6 x0 w0 w1 _ _ _ (F9_readTariff (cT g n N.1 (f, t, (if decide (pk g n (a + 1) = 45) = true then -N.2 else N.2), r)))) g n _
      rw [rt_e hn hZ.2 hg, hsg]
      unfold K9_readEntry_6
      show cR (K9_readEntry_7 x0 w0 w1 _ _ _ _ (F9_accept (cT g n (pLa (pk g n N.1) N.1) (f, t, (if pk g n (a + 1) = 45 then -N.2 else N.2), pLt (pk g n N.1))) 59)) g n _
      unfold pSm
      rw [if_pos trivial]
      by_cases c3 : pk g n (pLa (pk g n N.1) N.1) = 59
      · rw [ac_pos hn hLa.2 hg (by decide) c3]
        simp only [if_pos c3, decide_eq_true c3]
        exact ⟨rfl, _, rfl, fun _ => rfl⟩
      · rw [ac_neg hn hLa.2 hg (by decide) c3]
        simp only [if_neg c3, decide_eq_false c3]
        exact ⟨rfl, _, rfl, fun h => by cases h⟩
    · simp only [if_neg c2] at hZ ⊢
      rw [rn_neg hn hGa hg c2]
      unfold K9_readEntry_5
      rw [if_neg (by decide : ¬ (0 : Int32) ≤ -1), if_neg Bool.false_ne_true]
      exact ⟨rfl, _, rfl, fun h => by cases h⟩
  · rw [ac_neg hn ha hg (by decide) c1, if_neg c1]
    unfold K9_readEntry_3
    rw [if_neg Bool.false_ne_true]
    exact ⟨rfl, _, rfl, fun h => by cases h⟩
theorem ctl2 (x0 : ST) (w0 : Int32 × ST) (w1 : Bool × ST) (w2 : Int32 × ST) {g : SS} {n a : Nat} {f t d r : Int32} (hn : n ≤ 100) (ha : a ≤ n) (hg : cOk g n) : cR (K9_readEntry_9 x0 w0 w1 w2 (F9_accept (cT g n a (f, t, d, r)) 58)) g n (pTl g n a f t) := by
  unfold pTl
  by_cases c1 : pk g n a = 58
  · have h1 := pk_lt' c1 (by decide)
    rw [ac_pos hn ha hg (by decide) c1, if_pos c1]
    unfold K9_readEntry_9
    rw [if_pos rfl]
    have e45 : F9_accept (cT g n (a + 1) (f, t, d, r)) 45 = (decide (pk g n (a + 1) = 45), cT g n (pGa g n (a + 1)) (f, t, d, r)) := by
      unfold pGa
      by_cases c : pk g n (a + 1) = 45
      · rw [ac_pos hn h1 hg (by decide) c, if_pos c, decide_eq_true c]
      · rw [ac_neg hn h1 hg (by decide) c, if_neg c, decide_eq_false c]
    have hGa : pGa g n (a + 1) ≤ n := by
      unfold pGa
      split
      · rename_i c; exact pk_lt' c (by decide)
      · exact h1
    show cR (K9_readEntry_10 x0 w0 w1 w2 _ (F9_accept (cT g n (a + 1) (f, t, d, r)) 45)) g n _
    rw [e45]
    unfold K9_readEntry_10
    have hZ := pZ_ok g n (a + 1) h1
    unfold pZ at hZ ⊢
    by_cases c2 : pD g n (pGa g n (a + 1)) 0 9 = true
    · obtain ⟨e1, e2⟩ := rn_pos (r := (f, t, d, r)) hn hGa hg c2
      simp only [if_pos c2] at hZ ⊢
      rw [e1]
      unfold K9_readEntry_11
      rw [if_pos e2]
      generalize hN : pLo g n 4 1 (pGa g n (a + 1) + 1) (pk g n (pGa g n (a + 1)) - (48 : Int32)) = N at hZ e2 ⊢
      have hsg : (if decide (pk g n (a + 1) = 45) = true then -N.2 else N.2) = (if pk g n (a + 1) = 45 then -N.2 else N.2) := by
        by_cases c : pk g n (a + 1) = 45
        · rw [decide_eq_true c, if_pos rfl, if_pos c]
        · rw [decide_eq_false c, if_neg Bool.false_ne_true, if_neg c]
      have hLa := pLa_ok g n N.1 hZ.2
      show cR (K9_readEntry_12 x0 w0 w1 w2 _ _ _ (F9_readTariff (cT g n N.1 (f, t, (if decide (pk g n (a + 1) = 45) = true then -N.2 else N.2), r)))) g n _
      rw [rt_e hn hZ.2 hg, hsg]
      unfold K9_readEntry_12
      show cR (K9_readEntry_13 x0 w0 w1 w2 _ _ _ _ (F9_accept (cT g n (pLa (pk g n N.1) N.1) (f, t, (if pk g n (a + 1) = 45 then -N.2 else N.2), pLt (pk g n N.1))) 59)) g n _
      unfold pSm
      rw [if_pos trivial]
      by_cases c3 : pk g n (pLa (pk g n N.1) N.1) = 59
      · rw [ac_pos hn hLa.2 hg (by decide) c3]
        simp only [if_pos c3, decide_eq_true c3]
        exact ⟨rfl, _, rfl, fun _ => rfl⟩
      · rw [ac_neg hn hLa.2 hg (by decide) c3]
        simp only [if_neg c3, decide_eq_false c3]
        exact ⟨rfl, _, rfl, fun h => by cases h⟩
    · simp only [if_neg c2] at hZ ⊢
      rw [rn_neg hn hGa hg c2]
      unfold K9_readEntry_11
      rw [if_neg (by decide : ¬ (0 : Int32) ≤ -1), if_neg Bool.false_ne_true]
      exact ⟨rfl, _, rfl, fun h => by cases h⟩
  · rw [ac_neg hn ha hg (by decide) c1, if_neg c1]
    unfold K9_readEntry_9
    rw [if_neg Bool.false_ne_true]
    exact ⟨rfl, _, rfl, fun h => by cases h⟩
theorem ce_eq {g : SS} {n a : Nat} {f t d r : Int32} (hn : n ≤ 100) (ha : a ≤ n) (hg : cOk g n) : cR (F9_readEntry (cT g n a (f, t, d, r))) g n (pE g n a) := by
  unfold F9_readEntry pE
  by_cases c1 : (pH g n a).1 = true
  · obtain ⟨p1, p2, p3, p4⟩ := pH_ok g n a ha c1
    rw [rh_pos hn ha hg c1, if_pos c1]
    generalize pH g n a = h1 at p1 p2 p3 p4
    unfold K9_readEntry_1
    rw [if_pos (w_0i p3)]
    show cR (K9_readEntry_2 _ _ (F9_accept (cT g n h1.2.1 (h1.2.2, h1.2.2, d, r)) 45)) g n _
    by_cases c2 : pk g n h1.2.1 = 45
    · have l2 := pk_lt' c2 (by decide)
      rw [ac_pos hn p2 hg (by decide) c2, if_pos c2]
      unfold K9_readEntry_2
      rw [if_pos rfl]
      by_cases c3 : (pH g n (h1.2.1 + 1)).1 = true
      · obtain ⟨q1, q2, q3, q4⟩ := pH_ok g n (h1.2.1 + 1) l2 c3
        rw [if_pos c3]
        show cR (K9_readEntry_8 _ _ _ (F9_readHour (cT g n (h1.2.1 + 1) (h1.2.2, h1.2.2, d, r)))) g n _
        rw [rh_pos hn l2 hg c3]
        unfold K9_readEntry_8
        rw [if_neg (w_i0 q3)]
        exact ctl2 _ _ _ _ hn q2 hg
      · rw [if_neg c3]
        show cR (K9_readEntry_8 _ _ _ (F9_readHour (cT g n (h1.2.1 + 1) (h1.2.2, h1.2.2, d, r)))) g n _
        rw [rh_neg hn l2 hg c3]
        unfold K9_readEntry_8
        rw [if_pos (by decide : (-1 : Int32) < 0)]
        exact ⟨rfl, _, rfl, fun h => by cases h⟩
    · rw [ac_neg hn p2 hg (by decide) c2, if_neg c2]
      unfold K9_readEntry_2
      rw [if_neg Bool.false_ne_true, if_neg (show ¬ (false, cT g n h1.2.1 (h1.2.2, h1.2.2, d, r)).2.2.2.2.2.1 < 0 from w_i0 p3)]
      exact ctl1 _ _ _ hn p2 hg
  · rw [rh_neg hn ha hg c1, if_neg c1]
    unfold K9_readEntry_1
    rw [if_neg (by decide : ¬ (0 : Int32) ≤ -1)]
    exact ⟨rfl, _, rfl, fun h => by cases h⟩
