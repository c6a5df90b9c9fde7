/-! the law's helpers leave the number of remembered states and the oldest's place within -/
def hbP (w : Bool × PlS × PlS × ((Nat × Nat) × (Nat → PlS))) : Prop := w.2.2.2.1.1 < 4 ∧ w.2.2.2.1.2 ≤ 4
def hbZ (z : Int32 × PlS × ((Nat × Nat) × (Nat → PlS))) : Prop := z.2.2.1.1 < 4 ∧ z.2.2.1.2 ≤ 4
theorem hb_leaf (b : Bool) (p q : PlS) (o k : Nat) (h : Nat → PlS) (h1 : o < 4) (h2 : k ≤ 4) : hbP (b, (p, q, ((o, k), h))) := ⟨h1, h2⟩
theorem hb_T221 (u u1 : PlS) (o k : Nat) (h : Nat → PlS) (p2 : Int32) (inn : Int64) (v : PlS) (z1 : Int32 × PlS) (z3 : Int32 × PlS × ((Nat × Nat) × (Nat → PlS))) (h1 : z3.2.2.1.1 < 4) (h2 : z3.2.2.1.2 ≤ 4) : hbP (T12_runs_221 u u1 o k h p2 inn v z1 z3) := by
  unfold T12_runs_221
  repeat' split
  all_goals with_reducible exact hb_leaf _ _ _ _ _ _ h1 h2
theorem hb_T158 (u u1 : PlS) (o k : Nat) (h : Nat → PlS) (p2 : Int32) (inn : Int64) (v : PlS) (z1 : Int32 × PlS) (z3 : Int32 × PlS × ((Nat × Nat) × (Nat → PlS))) (h1 : z3.2.2.1.1 < 4) (h2 : z3.2.2.1.2 ≤ 4) : hbP (T12_runs_158 u u1 o k h p2 inn v z1 z3) := by
  unfold T12_runs_158
  repeat' split
  all_goals first | with_reducible exact hb_leaf _ _ _ _ _ _ h1 h2 | with_reducible exact hb_T221 _ _ _ _ _ _ _ _ _ _ h1 h2
theorem hb_K2 (u u1 : PlS) (o k : Nat) (h : Nat → PlS) (p2 : Int32) (inn : Int64) (v : PlS) (z1 : Int32 × PlS) (z3 : Int32 × PlS × ((Nat × Nat) × (Nat → PlS))) (h1 : z3.2.2.1.1 < 4) (h2 : z3.2.2.1.2 ≤ 4) : hbP (K12_runs_2 u u1 o k h p2 inn v z1 z3) := by
  unfold K12_runs_2
  repeat' split
  all_goals first | with_reducible exact hb_leaf _ _ _ _ _ _ h1 h2 | with_reducible exact hb_T158 _ _ _ _ _ _ _ _ _ _ h1 h2
theorem hb_T59 (u u1 : PlS) (o k : Nat) (h : Nat → PlS) (p2 : Int32) (inn : Int64) (v : PlS) (ho : o < 4) (hk : k ≤ 4) : hbP (T12_runs_59 u u1 o k h p2 inn v) :=
  hb_K2 _ _ _ _ _ _ _ _ _ _ (hb10_run u o k h p2 ho hk).1 (hb10_run u o k h p2 ho hk).2
theorem hb12_runs (u u1 : PlS) (o k : Nat) (h : Nat → PlS) (p2 : Int32) (ho : o < 4) (hk : k ≤ 4) : hbP (F12_runs u u1 o k h p2) := by
  unfold F12_runs K12_runs_3
  split
  · exact hb_T59 _ _ _ _ _ _ _ _ ho hk
  · exact hb_T59 _ _ _ _ _ _ _ _ ho hk
theorem hb_K12_changes_5 (u u1 : PlS) (o k : Nat) (h : Nat → PlS) (p2 p3 : Int32) (z10 : Int32 × PlS × ((Nat × Nat) × (Nat → PlS))) (z12 : Int32 × PlS × ((Nat × Nat) × (Nat → PlS))) (z14 : Int32 × PlS × ((Nat × Nat) × (Nat → PlS))) (z16 : Int32 × PlS × ((Nat × Nat) × (Nat → PlS))) (z18 : Int32 × PlS × ((Nat × Nat) × (Nat → PlS))) (hz : hbZ z18) : hbP (K12_changes_5 u u1 o k h p2 p3 z10 z12 z14 z16 z18) := by
  obtain ⟨h1, h2⟩ := hz
  unfold K12_changes_5
  repeat' split
  all_goals first | with_reducible exact hb_leaf _ _ _ _ _ _ h1 h2
theorem hb_K12_changes_4 (u u1 : PlS) (o k : Nat) (h : Nat → PlS) (p2 p3 : Int32) (z10 : Int32 × PlS × ((Nat × Nat) × (Nat → PlS))) (z12 : Int32 × PlS × ((Nat × Nat) × (Nat → PlS))) (z14 : Int32 × PlS × ((Nat × Nat) × (Nat → PlS))) (z16 : Int32 × PlS × ((Nat × Nat) × (Nat → PlS))) (hz : hbZ z16) : hbP (K12_changes_4 u u1 o k h p2 p3 z10 z12 z14 z16) := by
  obtain ⟨h1, h2⟩ := hz
  unfold K12_changes_4
  repeat' split
  all_goals first | with_reducible exact hb_leaf _ _ _ _ _ _ h1 h2 | exact hb_K12_changes_5 _ _ _ _ _ _ _ _ _ _ _ _ (hb10_addPoint _ _ _ _ _ _ h1 h2)
theorem hb_K12_changes_3 (u u1 : PlS) (o k : Nat) (h : Nat → PlS) (p2 p3 : Int32) (z10 : Int32 × PlS × ((Nat × Nat) × (Nat → PlS))) (z12 : Int32 × PlS × ((Nat × Nat) × (Nat → PlS))) (z14 : Int32 × PlS × ((Nat × Nat) × (Nat → PlS))) (hz : hbZ z14) : hbP (K12_changes_3 u u1 o k h p2 p3 z10 z12 z14) := by
  obtain ⟨h1, h2⟩ := hz
  unfold K12_changes_3
  repeat' split
  all_goals first | with_reducible exact hb_leaf _ _ _ _ _ _ h1 h2 | exact hb_K12_changes_4 _ _ _ _ _ _ _ _ _ _ _ (hb10_run _ _ _ _ _ h1 h2)
theorem hb_K12_changes_2 (u u1 : PlS) (o k : Nat) (h : Nat → PlS) (p2 p3 : Int32) (z10 : Int32 × PlS × ((Nat × Nat) × (Nat → PlS))) (z12 : Int32 × PlS × ((Nat × Nat) × (Nat → PlS))) (hz : hbZ z12) : hbP (K12_changes_2 u u1 o k h p2 p3 z10 z12) := by
  obtain ⟨h1, h2⟩ := hz
  unfold K12_changes_2
  repeat' split
  all_goals first | with_reducible exact hb_leaf _ _ _ _ _ _ h1 h2 | exact hb_K12_changes_3 _ _ _ _ _ _ _ _ _ _ (hb10_fill _ _ _ _ _ _ h1 h2)
theorem hb_K12_changes_1 (u u1 : PlS) (o k : Nat) (h : Nat → PlS) (p2 p3 : Int32) (z10 : Int32 × PlS × ((Nat × Nat) × (Nat → PlS))) (hz : hbZ z10) : hbP (K12_changes_1 u u1 o k h p2 p3 z10) := by
  obtain ⟨h1, h2⟩ := hz
  unfold K12_changes_1
  repeat' split
  all_goals first | with_reducible exact hb_leaf _ _ _ _ _ _ h1 h2 | exact hb_K12_changes_2 _ _ _ _ _ _ _ _ _ (hb10_setTariff _ _ _ _ _ _ h1 h2)
theorem hb_K12_changes_13 (u u1 : PlS) (o k : Nat) (h : Nat → PlS) (p2 p3 : Int32) (z21 : Int32 × PlS) (z24 : Int32 × PlS × ((Nat × Nat) × (Nat → PlS))) (z27 : Int32 × PlS × ((Nat × Nat) × (Nat → PlS))) (z29 : Int32 × PlS × ((Nat × Nat) × (Nat → PlS))) (z33 : Int32 × PlS × ((Nat × Nat) × (Nat → PlS))) (z35 : Int32 × PlS × ((Nat × Nat) × (Nat → PlS))) (fi : Bool) (z38 : Int32 × PlS × ((Nat × Nat) × (Nat → PlS))) (z40 : Int32 × PlS × ((Nat × Nat) × (Nat → PlS))) (hz : hbZ z40) : hbP (K12_changes_13 u u1 o k h p2 p3 z21 z24 z27 z29 z33 z35 fi z38 z40) := by
  obtain ⟨h1, h2⟩ := hz
  unfold K12_changes_13
  repeat' split
  all_goals first | with_reducible exact hb_leaf _ _ _ _ _ _ h1 h2
theorem hb_K12_changes_12 (u u1 : PlS) (o k : Nat) (h : Nat → PlS) (p2 p3 : Int32) (z21 : Int32 × PlS) (z24 : Int32 × PlS × ((Nat × Nat) × (Nat → PlS))) (z27 : Int32 × PlS × ((Nat × Nat) × (Nat → PlS))) (z29 : Int32 × PlS × ((Nat × Nat) × (Nat → PlS))) (z33 : Int32 × PlS × ((Nat × Nat) × (Nat → PlS))) (z35 : Int32 × PlS × ((Nat × Nat) × (Nat → PlS))) (fi : Bool) (z38 : Int32 × PlS × ((Nat × Nat) × (Nat → PlS))) (hz : hbZ z38) : hbP (K12_changes_12 u u1 o k h p2 p3 z21 z24 z27 z29 z33 z35 fi z38) := by
  obtain ⟨h1, h2⟩ := hz
  unfold K12_changes_12
  repeat' split
  all_goals first | with_reducible exact hb_leaf _ _ _ _ _ _ h1 h2 | exact hb_K12_changes_13 _ _ _ _ _ _ _ _ _ _ _ _ _ _ _ _ (hb10_set _ _ _ _ _ _ h1 h2)
theorem hb_T12_changes_751 (u u1 : PlS) (o k : Nat) (h : Nat → PlS) (p2 p3 : Int32) (z21 : Int32 × PlS) (z24 : Int32 × PlS × ((Nat × Nat) × (Nat → PlS))) (z27 : Int32 × PlS × ((Nat × Nat) × (Nat → PlS))) (z29 : Int32 × PlS × ((Nat × Nat) × (Nat → PlS))) (z33 : Int32 × PlS × ((Nat × Nat) × (Nat → PlS))) (z35 : Int32 × PlS × ((Nat × Nat) × (Nat → PlS))) (fi : Bool) (hz : hbZ z35) : hbP (T12_changes_751 u u1 o k h p2 p3 z21 z24 z27 z29 z33 z35 fi ) := by
  obtain ⟨h1, h2⟩ := hz
  unfold T12_changes_751
  repeat' split
  all_goals first | with_reducible exact hb_leaf _ _ _ _ _ _ h1 h2 | exact hb_K12_changes_12 _ _ _ _ _ _ _ _ _ _ _ _ _ _ _ (hb10_undo _ _ _ _ h1 h2)
theorem hb_K12_changes_11 (u u1 : PlS) (o k : Nat) (h : Nat → PlS) (p2 p3 : Int32) (z21 : Int32 × PlS) (z24 : Int32 × PlS × ((Nat × Nat) × (Nat → PlS))) (z27 : Int32 × PlS × ((Nat × Nat) × (Nat → PlS))) (z29 : Int32 × PlS × ((Nat × Nat) × (Nat → PlS))) (z33 : Int32 × PlS × ((Nat × Nat) × (Nat → PlS))) (z35 : Int32 × PlS × ((Nat × Nat) × (Nat → PlS))) (hz : hbZ z35) : hbP (K12_changes_11 u u1 o k h p2 p3 z21 z24 z27 z29 z33 z35) := by
  obtain ⟨h1, h2⟩ := hz
  unfold K12_changes_11
  repeat' split
  all_goals first | with_reducible exact hb_leaf _ _ _ _ _ _ h1 h2 | exact hb_T12_changes_751 _ _ _ _ _ _ _ _ _ _ _ _ _ _ ⟨h1, h2⟩
theorem hb_K12_changes_10 (u u1 : PlS) (o k : Nat) (h : Nat → PlS) (p2 p3 : Int32) (z21 : Int32 × PlS) (z24 : Int32 × PlS × ((Nat × Nat) × (Nat → PlS))) (z27 : Int32 × PlS × ((Nat × Nat) × (Nat → PlS))) (z29 : Int32 × PlS × ((Nat × Nat) × (Nat → PlS))) (z33 : Int32 × PlS × ((Nat × Nat) × (Nat → PlS))) (hz : hbZ z33) : hbP (K12_changes_10 u u1 o k h p2 p3 z21 z24 z27 z29 z33) := by
  obtain ⟨h1, h2⟩ := hz
  unfold K12_changes_10
  repeat' split
  all_goals first | with_reducible exact hb_leaf _ _ _ _ _ _ h1 h2 | exact hb_K12_changes_11 _ _ _ _ _ _ _ _ _ _ _ _ _ (hb10_run _ _ _ _ _ h1 h2)
theorem hb_K12_changes_9 (u u1 : PlS) (o k : Nat) (h : Nat → PlS) (p2 p3 : Int32) (z21 : Int32 × PlS) (z24 : Int32 × PlS × ((Nat × Nat) × (Nat → PlS))) (z27 : Int32 × PlS × ((Nat × Nat) × (Nat → PlS))) (z29 : Int32 × PlS × ((Nat × Nat) × (Nat → PlS))) (hz : hbZ z29) : hbP (K12_changes_9 u u1 o k h p2 p3 z21 z24 z27 z29) := by
  obtain ⟨h1, h2⟩ := hz
  unfold K12_changes_9
  repeat' split
  all_goals first | with_reducible exact hb_leaf _ _ _ _ _ _ h1 h2 | exact hb_K12_changes_10 _ _ _ _ _ _ _ _ _ _ _ _ (hb10_set _ _ _ _ _ _ h1 h2)
theorem hb_K12_changes_8 (u u1 : PlS) (o k : Nat) (h : Nat → PlS) (p2 p3 : Int32) (z21 : Int32 × PlS) (z24 : Int32 × PlS × ((Nat × Nat) × (Nat → PlS))) (z27 : Int32 × PlS × ((Nat × Nat) × (Nat → PlS))) (hz : hbZ z27) : hbP (K12_changes_8 u u1 o k h p2 p3 z21 z24 z27) := by
  obtain ⟨h1, h2⟩ := hz
  unfold K12_changes_8
  repeat' split
  all_goals first | with_reducible exact hb_leaf _ _ _ _ _ _ h1 h2 | exact hb_K12_changes_9 _ _ _ _ _ _ _ _ _ _ _ (hb10_undo _ _ _ _ h1 h2)
theorem hb_K12_changes_7 (u u1 : PlS) (o k : Nat) (h : Nat → PlS) (p2 p3 : Int32) (z21 : Int32 × PlS) (z24 : Int32 × PlS × ((Nat × Nat) × (Nat → PlS))) (hz : hbZ z24) : hbP (K12_changes_7 u u1 o k h p2 p3 z21 z24) := by
  obtain ⟨h1, h2⟩ := hz
  unfold K12_changes_7
  repeat' split
  all_goals first | with_reducible exact hb_leaf _ _ _ _ _ _ h1 h2 | exact hb_K12_changes_8 _ _ _ _ _ _ _ _ _ _ (hb10_run _ _ _ _ _ h1 h2)
theorem hb_K12_changes_6 (u u1 : PlS) (o k : Nat) (h : Nat → PlS) (p2 p3 : Int32) (z21 : Int32 × PlS) (ho : o < 4) (hk : k ≤ 4) : hbP (K12_changes_6 u u1 o k h p2 p3 z21) := by
  unfold K12_changes_6
  repeat' split
  all_goals first | with_reducible exact hb_leaf _ _ _ _ _ _ ho hk | exact hb_K12_changes_7 _ _ _ _ _ _ _ _ _ (hb10_set _ _ _ _ _ _ ho hk)
theorem hb_K12_changes_14 (u u1 : PlS) (o k : Nat) (h : Nat → PlS) (p2 p3 : Int32) (z51 : Int32 × PlS × ((Nat × Nat) × (Nat → PlS))) (hz : hbZ z51) : hbP (K12_changes_14 u u1 o k h p2 p3 z51) := by
  obtain ⟨h1, h2⟩ := hz
  unfold K12_changes_14
  repeat' split
  all_goals first | with_reducible exact hb_leaf _ _ _ _ _ _ h1 h2
theorem hb_K12_changes_15 (u u1 : PlS) (o k : Nat) (h : Nat → PlS) (p2 p3 : Int32) (z55 : Int32 × PlS × ((Nat × Nat) × (Nat → PlS))) (hz : hbZ z55) : hbP (K12_changes_15 u u1 o k h p2 p3 z55) := by
  obtain ⟨h1, h2⟩ := hz
  unfold K12_changes_15
  repeat' split
  all_goals first | with_reducible exact hb_leaf _ _ _ _ _ _ h1 h2
theorem hb_K12_changes_16 (u u1 : PlS) (o k : Nat) (h : Nat → PlS) (p2 p3 : Int32) (z59 : Int32 × PlS × ((Nat × Nat) × (Nat → PlS))) (hz : hbZ z59) : hbP (K12_changes_16 u u1 o k h p2 p3 z59) := by
  obtain ⟨h1, h2⟩ := hz
  unfold K12_changes_16
  repeat' split
  all_goals first | with_reducible exact hb_leaf _ _ _ _ _ _ h1 h2
theorem hb_K12_changes_17 (u u1 : PlS) (o k : Nat) (h : Nat → PlS) (p2 p3 : Int32) (z64 : Int32 × PlS × ((Nat × Nat) × (Nat → PlS))) (hz : hbZ z64) : hbP (K12_changes_17 u u1 o k h p2 p3 z64) := by
  obtain ⟨h1, h2⟩ := hz
  unfold K12_changes_17
  repeat' split
  all_goals first | with_reducible exact hb_leaf _ _ _ _ _ _ h1 h2
theorem hb_K12_changes_18 (u u1 : PlS) (o k : Nat) (h : Nat → PlS) (p2 p3 : Int32) (z69 : Int32 × PlS × ((Nat × Nat) × (Nat → PlS))) (hz : hbZ z69) : hbP (K12_changes_18 u u1 o k h p2 p3 z69) := by
  obtain ⟨h1, h2⟩ := hz
  unfold K12_changes_18
  repeat' split
  all_goals first | with_reducible exact hb_leaf _ _ _ _ _ _ h1 h2
theorem hb_K12_changes_19 (u u1 : PlS) (o k : Nat) (h : Nat → PlS) (p2 p3 : Int32) (z74 : Int32 × PlS × ((Nat × Nat) × (Nat → PlS))) (hz : hbZ z74) : hbP (K12_changes_19 u u1 o k h p2 p3 z74) := by
  obtain ⟨h1, h2⟩ := hz
  unfold K12_changes_19
  repeat' split
  all_goals first | with_reducible exact hb_leaf _ _ _ _ _ _ h1 h2
theorem hb_K12_changes_20 (u u1 : PlS) (o k : Nat) (h : Nat → PlS) (p2 p3 : Int32) (z77 : Int32 × PlS × ((Nat × Nat) × (Nat → PlS))) (hz : hbZ z77) : hbP (K12_changes_20 u u1 o k h p2 p3 z77) := by
  obtain ⟨h1, h2⟩ := hz
  unfold K12_changes_20
  repeat' split
  all_goals first | with_reducible exact hb_leaf _ _ _ _ _ _ h1 h2
theorem hb12_changes (u u1 : PlS) (o k : Nat) (h : Nat → PlS) (p2 p3 : Int32) (ho : o < 4) (hk : k ≤ 4) : hbP (F12_changes u u1 o k h p2 p3) := by
  unfold F12_changes
  split
  · split
    · exact hb_K12_changes_20 _ _ _ _ _ _ _ _ (hb10_setOutdoor _ _ _ _ _ _ ho hk)
    · split
      · exact hb_K12_changes_19 _ _ _ _ _ _ _ _ (hb10_setTariff _ _ _ _ _ _ ho hk)
      · split
        · exact hb_K12_changes_18 _ _ _ _ _ _ _ _ (hb10_set _ _ _ _ _ _ ho hk)
        · split
          · exact hb_K12_changes_17 _ _ _ _ _ _ _ _ (hb10_fill _ _ _ _ _ _ ho hk)
          · split
            · exact hb_K12_changes_16 _ _ _ _ _ _ _ _ (hb10_addPoint _ _ _ _ _ _ ho hk)
            · split
              · exact hb_K12_changes_15 _ _ _ _ _ _ _ _ (hb10_removePoint _ _ _ _ _ ho hk)
              · split
                · exact hb_K12_changes_14 _ _ _ _ _ _ _ _ (hb10_setPrice _ _ _ _ _ _ ho hk)
                · split
                  · exact hb_K12_changes_6 _ _ _ _ _ _ _ _ ho hk
                  · exact hb_K12_changes_1 _ _ _ _ _ _ _ _ (hb10_setOutdoor _ _ _ _ _ _ ho hk)
  · exact hb12_runs _ _ _ _ _ _ ho hk
