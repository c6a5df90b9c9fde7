/-! the number of remembered states, and the place of the oldest, stay within -/
theorem hb_rec (o k : Nat) (h : Nat → PlS) (u : PlS) (ho : o < 4) (hk : k ≤ 4) : (F4_record o k h u).2.1.1 < 4 ∧ (F4_record o k h u).2.1.2 ≤ 4 := by
  unfold F4_record
  split
  · exact ⟨Nat.mod_lt _ (by omega), by show k - 1 + 1 ≤ 4; omega⟩
  · exact ⟨ho, by show k + 1 ≤ 4; omega⟩
theorem hb_res (o k : Nat) (h : Nat → PlS) (u : PlS) (ho : o < 4) (hk : k ≤ 4) : (F4_restore o k h u).2.1.1.1 < 4 ∧ (F4_restore o k h u).2.1.1.2 ≤ 4 := by
  unfold F4_restore
  split
  · exact ⟨ho, hk⟩
  · exact ⟨ho, by show k - 1 ≤ 4; omega⟩
theorem hb10_set (u : PlS) (o k : Nat) (h : Nat → PlS) (p1 p2 : Int32) (ho : o < 4) (hk : k ≤ 4) : (F10_set u o k h p1 p2).2.2.1.1 < 4 ∧ (F10_set u o k h p1 p2).2.2.1.2 ≤ 4 := by
  unfold F10_set
  repeat' split
  all_goals first | exact ⟨ho, hk⟩ | exact hb_rec o k h u ho hk
theorem hb10_setOutdoor (u : PlS) (o k : Nat) (h : Nat → PlS) (p1 p2 : Int32) (ho : o < 4) (hk : k ≤ 4) : (F10_setOutdoor u o k h p1 p2).2.2.1.1 < 4 ∧ (F10_setOutdoor u o k h p1 p2).2.2.1.2 ≤ 4 := by
  unfold F10_setOutdoor
  repeat' split
  all_goals first | exact ⟨ho, hk⟩ | exact hb_rec o k h u ho hk
theorem hb10_setTariff (u : PlS) (o k : Nat) (h : Nat → PlS) (p1 p2 : Int32) (ho : o < 4) (hk : k ≤ 4) : (F10_setTariff u o k h p1 p2).2.2.1.1 < 4 ∧ (F10_setTariff u o k h p1 p2).2.2.1.2 ≤ 4 := by
  unfold F10_setTariff
  repeat' split
  all_goals first | exact ⟨ho, hk⟩ | exact hb_rec o k h u ho hk
theorem hb10_setPrice (u : PlS) (o k : Nat) (h : Nat → PlS) (p1 p2 : Int32) (ho : o < 4) (hk : k ≤ 4) : (F10_setPrice u o k h p1 p2).2.2.1.1 < 4 ∧ (F10_setPrice u o k h p1 p2).2.2.1.2 ≤ 4 := by
  unfold F10_setPrice
  repeat' split
  all_goals first | exact ⟨ho, hk⟩ | exact hb_rec o k h u ho hk
theorem hb10_addPoint (u : PlS) (o k : Nat) (h : Nat → PlS) (p1 p2 : Int32) (ho : o < 4) (hk : k ≤ 4) : (F10_addPoint u o k h p1 p2).2.2.1.1 < 4 ∧ (F10_addPoint u o k h p1 p2).2.2.1.2 ≤ 4 := by
  unfold F10_addPoint
  repeat' split
  all_goals first | exact ⟨ho, hk⟩ | exact hb_rec o k h u ho hk
theorem hb10_removePoint (u : PlS) (o k : Nat) (h : Nat → PlS) (p1 : Int32) (ho : o < 4) (hk : k ≤ 4) : (F10_removePoint u o k h p1).2.2.1.1 < 4 ∧ (F10_removePoint u o k h p1).2.2.1.2 ≤ 4 := by
  unfold F10_removePoint
  repeat' split
  all_goals first | exact ⟨ho, hk⟩ | exact hb_rec o k h u ho hk
theorem hb10_fill (u : PlS) (o k : Nat) (h : Nat → PlS) (p1 p2 : Int32) (ho : o < 4) (hk : k ≤ 4) : (F10_fill u o k h p1 p2).2.2.1.1 < 4 ∧ (F10_fill u o k h p1 p2).2.2.1.2 ≤ 4 := by
  unfold F10_fill
  repeat' split
  all_goals first | exact ⟨ho, hk⟩ | exact hb_rec o k h u ho hk
theorem hb10_run (u : PlS) (o k : Nat) (h : Nat → PlS) (p1 : Int32) (ho : o < 4) (hk : k ≤ 4) : (F10_run u o k h p1).2.2.1.1 < 4 ∧ (F10_run u o k h p1).2.2.1.2 ≤ 4 := by
  unfold F10_run
  repeat' split
  all_goals first | exact ⟨ho, hk⟩ | exact hb_rec o k h u ho hk
theorem hb10_undo (u : PlS) (o k : Nat) (h : Nat → PlS) (ho : o < 4) (hk : k ≤ 4) : (F10_undo u o k h).2.2.1.1 < 4 ∧ (F10_undo u o k h).2.2.1.2 ≤ 4 := hb_res o k h u ho hk
theorem hb10_loadWeather (u : PlS) (o k : Nat) (h : Nat → PlS) (x1 : ST) (ho : o < 4) (hk : k ≤ 4) : (F10_loadWeather u o k h x1).2.2.1.1.1 < 4 ∧ (F10_loadWeather u o k h x1).2.2.1.1.2 ≤ 4 := by
  unfold F10_loadWeather K10_loadWeather_1
  split
  · exact hb_rec o k h u ho hk
  · exact ⟨ho, hk⟩
