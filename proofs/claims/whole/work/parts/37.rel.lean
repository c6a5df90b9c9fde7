/-! the relation: a plant of the class, and the first 174 places of a row of the model -/
/-- the points: the class keeps them in rising order, the model as they came -/
def rK (x : SK) (f : Nat → Int64) : Prop := f 68 = x.2.2.toInt64 ∧ 1 ≤ x.2.2.toInt ∧ x.2.2.toInt ≤ 6 ∧
  (∀ i j : Nat, i < j → (j : Int) < x.2.2.toInt → (x.1 i).toInt < (x.1 j).toInt) ∧
  (∀ i : Nat, (i : Int) < x.2.2.toInt → ∃ j : Nat, (j : Int) < x.2.2.toInt ∧ f (69 + 2 * j) = (x.1 i).toInt64 ∧ f (69 + 2 * j + 1) = (x.2.1 i).toInt64) ∧
  (∀ j : Nat, (j : Int) < x.2.2.toInt → ∃ i : Nat, (i : Int) < x.2.2.toInt ∧ f (69 + 2 * j) = (x.1 i).toInt64 ∧ f (69 + 2 * j + 1) = (x.2.1 i).toInt64)
def rl (u : PlS) (f : Nat → Int64) : Prop :=
  (∀ j, j < 17 → f j = (pS u j).toInt64) ∧ (∀ j, j < 24 → f (17 + j) = ((pW u).1 j).toInt64) ∧ (∀ j, j < 24 → f (41 + j) = ((pW u).2.1 j).toInt64) ∧ (∀ j, j < 3 → f (65 + j) = ((pW u).2.2 j).toInt64) ∧
  rK (pK u) f ∧ f 81 = (pB u).2.toInt64 ∧ (∀ j, j < 4 → f (82 + j) = (pB u).1 j) ∧
  f 86 = (pP u).1.toInt64 ∧ f 87 = (pP u).2.1.toInt64 ∧ f 88 = (pP u).2.2.1.toInt64 ∧ f 89 = (pP u).2.2.2.2.1.toInt64 ∧ f 91 = (pT u).toInt64 ∧
  f 92 = (pA u).2.1.toInt64 ∧ (∀ j, j < 12 → f (93 + j) = ((pA u).1 j).toInt64) ∧ f 105 = (pA u).2.2.1.toInt64 ∧ f 106 = (pA u).2.2.2.1.toInt64 ∧
  f 107 = (pA u).2.2.2.2.1 ∧ f 108 = (pA u).2.2.2.2.2.1 ∧ f 109 = (pA u).2.2.2.2.2.2.1 ∧ f 110 = (pA u).2.2.2.2.2.2.2.1 ∧ f 111 = (pA u).2.2.2.2.2.2.2.2.1 ∧ f 112 = (pA u).2.2.2.2.2.2.2.2.2.1 ∧ f 113 = (pA u).2.2.2.2.2.2.2.2.2.2 ∧
  (∀ j, j < 60 → f (114 + j) = ((pP u).2.2.2.2.2.2 j).toInt64) ∧ (f 86 = 2 → f 91 - f 90 = (pP u).2.2.2.1.toInt64)
theorem cpy_e (u v : PlS) : F5_copyFrom u v = (pS v, pW v, pK v, pB v, pP v, pA v, pC u, pT v) := rfl
/-- the passing conditions are no part of the relation -/
theorem rl_cpy {u v : PlS} {f : Nat → Int64} (h : rl v f) : rl (F5_copyFrom u v) f := h
theorem rl_of {u : PlS} {f g : Nat → Int64} (h : rl u f) (e : ∀ j, j < 174 → g j = f j) : rl u g := by
  have e' : ∀ j, j < 174 → f j = g j := fun j hj => (e j hj).symm
  obtain ⟨h1, h2, h3, h4, h5, h6, h7, h8, h9, h10, h11, h12, h13, h14, h15, h16, h17, h18, h19, h20, h21, h22, h23, h24, h25⟩ := h
  obtain ⟨k1, k2, k3, k4, k5, k6⟩ := h5
  refine ⟨fun j hj => (e _ (by omega)).trans (h1 j hj), fun j hj => (e _ (by omega)).trans (h2 j hj), fun j hj => (e _ (by omega)).trans (h3 j hj), fun j hj => (e _ (by omega)).trans (h4 j hj), ⟨(e _ (by omega)).trans k1, k2, k3, k4, fun i hi => ?_, fun j hj => ?_⟩, (e _ (by omega)).trans h6, fun j hj => (e _ (by omega)).trans (h7 j hj), (e _ (by omega)).trans h8, (e _ (by omega)).trans h9, (e _ (by omega)).trans h10, (e _ (by omega)).trans h11, (e _ (by omega)).trans h12, (e _ (by omega)).trans h13, fun j hj => (e _ (by omega)).trans (h14 j hj), (e _ (by omega)).trans h15, (e _ (by omega)).trans h16, (e _ (by omega)).trans h17, (e _ (by omega)).trans h18, (e _ (by omega)).trans h19, (e _ (by omega)).trans h20, (e _ (by omega)).trans h21, (e _ (by omega)).trans h22, (e _ (by omega)).trans h23, fun j hj => (e _ (by omega)).trans (h24 j hj), fun hm => ?_⟩
  · obtain ⟨j, hj, a, b⟩ := k5 i hi
    exact ⟨j, hj, (e _ (by omega)).trans a, (e _ (by omega)).trans b⟩
  · obtain ⟨i, hi, a, b⟩ := k6 j hj
    exact ⟨i, hi, (e _ (by omega)).trans a, (e _ (by omega)).trans b⟩
  · rw [e 91 (by omega), e 90 (by omega)]
    exact h25 (by rw [e' 86 (by omega)]; exact hm)
/-- the remembered plants, the oldest first -/
def rH (o k : Nat) (h : Nat → PlS) (f : Nat → Int64) : Prop := ∀ i, i < k → rl (h ((o + i) % 4)) (fun j => f (174 * (i + 1) + j))
