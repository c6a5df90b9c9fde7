theorem pD_lt {g : SS} {n a : Nat} {p : Int32} (hp : 0 ≤ p.toInt) (hp9 : p.toInt ≤ 9) (h : pD g n a 0 p = true) : a < n := by
  have h1 := ((pD_iff hp hp9).mp h).1
  by_cases q : n ≤ a
  · unfold pk at h1
    rw [if_pos q] at h1
    exact absurd h1 (by decide)
  · omega
theorem pD_b {g : SS} {n a : Nat} {p : Int32} (hp : 0 ≤ p.toInt) (hp9 : p.toInt ≤ 9) (h : pD g n a 0 p = true) : 0 ≤ (pk g n a - (48 : Int32)).toInt ∧ (pk g n a - (48 : Int32)).toInt ≤ p.toInt := by
  obtain ⟨h1, h2⟩ := (pD_iff hp hp9).mp h
  rw [w_dig h1 (by omega)]
  omega
theorem w_0i {n : Int32} (h : 0 ≤ n.toInt) : (0 : Int32) ≤ n := Int32.le_iff_toInt_le.mpr h
theorem w_as (x y : Int32) : (x + y) - (48 : Int32) = x + (y - (48 : Int32)) := by
  rw [Int32.sub_eq_add_neg, Int32.sub_eq_add_neg, Int32.add_assoc]
theorem n9 : 0 ≤ (9 : Int32).toInt ∧ (9 : Int32).toInt ≤ 9 := by decide
theorem n3 : 0 ≤ (3 : Int32).toInt ∧ (3 : Int32).toInt ≤ 9 := by decide
theorem rh_pos {g : SS} {n a : Nat} {r : Int32 × Int32 × Int32 × Int32} (hn : n ≤ 100) (ha : a ≤ n) (hg : cOk g n) (h : (pH g n a).1 = true) : F9_readHour (cT g n a r) = ((pH g n a).2.2, cT g n (pH g n a).2.1 r) := by
  unfold F9_readHour
  unfold pH at h ⊢
  by_cases c1 : pD g n a 0 9 = true
  · have hl := pD_lt n9.1 n9.2 c1
    have hb := pD_b n9.1 n9.2 c1
    rw [rd_pos hn ha n9.1 n9.2 c1]
    simp only [if_pos c1]
    unfold K9_readHour_1
    generalize pk g n a - (48 : Int32) = d at hb
    by_cases c2 : d = 1
    · simp only [if_pos c2]
      unfold K9_readHour_2
      by_cases c4 : pD g n (a + 1) 0 9 = true
      · rw [rd_pos hn hl n9.1 n9.2 c4]
        simp only [if_pos c4]
        rw [if_pos (w_0i (pD_b n9.1 n9.2 c4).1), w_as]
      · rw [rd_neg hn hl hg n9.1 n9.2 c4]
        simp only [if_neg c4]
        rw [if_neg (by decide)]
    · simp only [if_neg c2]
      by_cases c3 : d = 2
      · simp only [if_pos c3]
        unfold K9_readHour_3
        by_cases c4 : pD g n (a + 1) 0 3 = true
        · rw [rd_pos hn hl n3.1 n3.2 c4]
          simp only [if_pos c4]
          rw [if_pos (w_0i (pD_b n3.1 n3.2 c4).1), w_as]
        · rw [rd_neg hn hl hg n3.1 n3.2 c4]
          simp only [if_neg c4]
          rw [if_neg (by decide)]
      · simp only [if_neg c3]
  · rw [if_neg c1] at h
    cases h
theorem rh_neg {g : SS} {n a : Nat} {r : Int32 × Int32 × Int32 × Int32} (hn : n ≤ 100) (ha : a ≤ n) (hg : cOk g n) (h : ¬ (pH g n a).1 = true) : F9_readHour (cT g n a r) = (-1, cT g n a r) := by
  unfold F9_readHour
  by_cases c1 : pD g n a 0 9 = true
  · exfalso
    apply h
    unfold pH
    rw [if_pos c1]
    repeat' split
    all_goals rfl
  · rw [rd_neg hn ha hg n9.1 n9.2 c1]
    unfold K9_readHour_1
    rw [if_neg (by decide : ¬ (-1 : Int32) = 1), if_neg (by decide : ¬ (-1 : Int32) = 2)]
theorem w_pos {d : Int32} : ¬ d ≤ (0 : Int32) ↔ (0 : Int32) < d := Int32.not_le
theorem rn_pos {g : SS} {n a : Nat} {r : Int32 × Int32 × Int32 × Int32} (hn : n ≤ 100) (ha : a ≤ n) (hg : cOk g n) (h : pD g n a 0 9 = true) : F9_readNumber (cT g n a r) = ((pLo g n 4 1 (a + 1) (pk g n a - (48 : Int32))).2, cT g n (pLo g n 4 1 (a + 1) (pk g n a - (48 : Int32))).1 r) ∧ (0 : Int32) ≤ (pLo g n 4 1 (a + 1) (pk g n a - (48 : Int32))).2 := by
  have hl := pD_lt n9.1 n9.2 h
  have hb := pD_b n9.1 n9.2 h
  unfold F9_readNumber
  rw [rd_pos hn ha n9.1 n9.2 h]
  unfold K9_readNumber_1
  generalize pk g n a - (48 : Int32) = d at hb
  rw [show (9 : Int32).toInt = 9 from by decide] at hb
  unfold pLo
  rw [if_neg (by decide : ¬ 3 ≤ 1)]
  by_cases c1 : d ≤ (0 : Int32)
  · rw [if_pos c1, if_neg (fun q => (w_pos.mpr q) c1)]
    exact ⟨rfl, w_0i hb.1⟩
  · rw [if_neg c1, if_pos (w_pos.mp c1)]
    by_cases c2 : pD g n (a + 1) 0 9 = true
    · have hl2 := pD_lt n9.1 n9.2 c2
      have hb2 := pD_b n9.1 n9.2 c2
      rw [show (9 : Int32).toInt = 9 from by decide] at hb2
      rw [if_pos c2, rd_pos hn hl n9.1 n9.2 c2]
      unfold K9_readNumber_2
      rw [if_pos (w_0i hb2.1)]
      unfold pLo
      rw [if_neg (by decide : ¬ 3 ≤ 1 + 1), w_as]
      have e2 := w_ten1 hb.1 hb.2 hb2.1 hb2.2
      generalize pk g n (a + 1) - (48 : Int32) = d2 at hb2 e2
      have hd : 0 < d.toInt := by
        have := Int32.lt_iff_toInt_lt.mp (w_pos.mp c1)
        rw [show (0 : Int32).toInt = 0 from by decide] at this
        exact this
      have c3 : ¬ (10 : Int32) * d + d2 ≤ (0 : Int32) := fun q => by
        have := Int32.le_iff_toInt_le.mp q
        rw [e2, show (0 : Int32).toInt = 0 from by decide] at this
        omega
      rw [if_neg c3]
      by_cases c4 : pD g n (a + 1 + 1) 0 9 = true
      · have hb3 := pD_b n9.1 n9.2 c4
        rw [show (9 : Int32).toInt = 9 from by decide] at hb3
        rw [if_pos c4, rd_pos hn hl2 n9.1 n9.2 c4]
        unfold K9_readNumber_3
        rw [if_pos (w_0i hb3.1)]
        unfold pLo
        rw [if_pos (by decide : 3 ≤ 1 + 1 + 1), w_as]
        refine ⟨rfl, w_0i ?_⟩
        show 0 ≤ ((10 : Int32) * ((10 : Int32) * d + d2) + (pk g n (a + 1 + 1) - 48)).toInt
        rw [Int32.toInt_add, Int32.toInt_mul, show (10 : Int32).toInt = 10 from by decide, e2, w_bm (x := 10 * (10 * d.toInt + d2.toInt)) (by omega) (by omega), w_bm (by omega) (by omega)]
        omega
      · rw [if_neg c4, rd_neg hn hl2 hg n9.1 n9.2 c4]
        unfold K9_readNumber_3
        rw [if_neg (by decide : ¬ (0 : Int32) ≤ -1)]
        refine ⟨rfl, w_0i ?_⟩
        show 0 ≤ ((10 : Int32) * d + d2).toInt
        rw [e2]
        omega
    · rw [if_neg c2, rd_neg hn hl hg n9.1 n9.2 c2]
      unfold K9_readNumber_2
      rw [if_neg (by decide : ¬ (0 : Int32) ≤ -1)]
      exact ⟨rfl, w_0i hb.1⟩
theorem rn_neg {g : SS} {n a : Nat} {r : Int32 × Int32 × Int32 × Int32} (hn : n ≤ 100) (ha : a ≤ n) (hg : cOk g n) (h : ¬ pD g n a 0 9 = true) : F9_readNumber (cT g n a r) = (-1, cT g n a r) := by
  unfold F9_readNumber
  rw [rd_neg hn ha hg n9.1 n9.2 h]
  unfold K9_readNumber_1
  rw [if_neg (by decide : ¬ (0 : Int32) < -1)]
theorem rt_e {g : SS} {n a : Nat} {r : Int32 × Int32 × Int32 × Int32} (hn : n ≤ 100) (ha : a ≤ n) (hg : cOk g n) : F9_readTariff (cT g n a r) = (pLt (pk g n a), cT g n (pLa (pk g n a) a) r) := by
  unfold F9_readTariff pLt pLa
  by_cases c1 : pk g n a = 99
  · rw [ac_pos hn ha hg (by decide) c1, if_pos c1, if_pos c1]
    rfl
  · rw [ac_neg hn ha hg (by decide) c1, if_neg c1, if_neg c1]
    unfold K9_readTariff_1
    rw [if_neg Bool.false_ne_true]
    by_cases c2 : pk g n a = 110
    · rw [ac_pos hn ha hg (by decide) c2, if_pos c2, if_pos c2]
      rfl
    · rw [ac_neg hn ha hg (by decide) c2, if_neg c2, if_neg c2]
      unfold K9_readTariff_2
      rw [if_neg Bool.false_ne_true]
      by_cases c3 : pk g n a = 112
      · rw [ac_pos hn ha hg (by decide) c3, if_pos c3, if_pos c3]
        rfl
      · rw [ac_neg hn ha hg (by decide) c3, if_neg c3, if_neg c3]
        rfl
