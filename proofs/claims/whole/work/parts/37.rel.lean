/-! the relation: a plant of the class, and the first 174 places of a row of the model -/
/-- the points: the class keeps them in rising order, the model as they came -/
def rK (x : SK) (f : Nat → Int64) : Prop := f 68 = x.2.2.toInt64 ∧ 1 ≤ x.2.2.toInt ∧ x.2.2.toInt ≤ 6 ∧
  (∀ i j : Nat, i < j → (j : Int) < x.2.2.toInt → (x.1 i).toInt < (x.1 j).toInt) ∧
  (∀ i : Nat, (i : Int) < x.2.2.toInt → ∃ j : Nat, (j : Int) < x.2.2.toInt ∧ f (69 + 2 * j) = (x.1 i).toInt64 ∧ f (69 + 2 * j + 1) = (x.2.1 i).toInt64) ∧
  (∀ j : Nat, (j : Int) < x.2.2.toInt → ∃ i : Nat, (i : Int) < x.2.2.toInt ∧ f (69 + 2 * j) = (x.1 i).toInt64 ∧ f (69 + 2 * j + 1) = (x.2.1 i).toInt64) ∧
  (∀ i j : Nat, i < j → (j : Int) < x.2.2.toInt → f (69 + 2 * i) ≠ f (69 + 2 * j))
/-- the numbers stay within -/
def bS (x : SS) : Prop := ∀ j, j < 17 → -50 ≤ (x j).toInt ∧ (x j).toInt ≤ 20000
def bW (x : SW) : Prop := (∀ j, j < 24 → -300 ≤ (x.1 j).toInt ∧ (x.1 j).toInt ≤ 400) ∧ (∀ j, j < 24 → 0 ≤ (x.2.1 j).toInt ∧ (x.2.1 j).toInt ≤ 2) ∧ (∀ j, j < 3 → 0 ≤ (x.2.2 j).toInt ∧ (x.2.2 j).toInt ≤ 1000)
def bK (x : SK) : Prop := ∀ i : Nat, (i : Int) < x.2.2.toInt → (-300 ≤ (x.1 i).toInt ∧ (x.1 i).toInt ≤ 400) ∧ (150 ≤ (x.2.1 i).toInt ∧ (x.2.1 i).toInt ≤ 600)
def bB (c : Int32) : Prop := 100 ≤ c.toInt ∧ c.toInt ≤ 5000
def cb (N : Int) (x : Int32) : Prop := 0 ≤ x.toInt ∧ x.toInt ≤ N
def wS (s : SS) : Nat → Int32
  | 0 => 0
  | n + 1 => wS s n + s n
def bP (N : Int) (p : SP) : Prop := (0 ≤ p.1.toInt ∧ p.1.toInt ≤ 2) ∧ cb N p.2.1 ∧ cb N p.2.2.1 ∧ cb N p.2.2.2.1 ∧ cb N p.2.2.2.2.1 ∧ p.2.2.2.2.2.1 = wS p.2.2.2.2.2.2 60
def bA (N : Int) (a : SA) : Prop := (∀ j, j < 12 → cb N (a.1 j)) ∧ cb N a.2.2.1 ∧ cb N a.2.2.2.1
/-- what a minute leaves as it is -/
def rs (S : SS) (W : SW) (K : SK) (c : Int32) (f : Nat → Int64) : Prop :=
  (∀ j, j < 17 → f j = (S j).toInt64) ∧ (∀ j, j < 24 → f (17 + j) = (W.1 j).toInt64) ∧ (∀ j, j < 24 → f (41 + j) = (W.2.1 j).toInt64) ∧ (∀ j, j < 3 → f (65 + j) = (W.2.2 j).toInt64) ∧
  rK K f ∧ f 81 = c.toInt64 ∧ bS S ∧ bW W ∧ bK K ∧ bB c
/-- what a minute changes -/
def rd (N : Int) (E : Nat → Int64) (P : SP) (A : SA) (T : Int32) (f : Nat → Int64) : Prop :=
  (∀ j, j < 4 → f (82 + j) = E j) ∧
  f 86 = P.1.toInt64 ∧ f 87 = P.2.1.toInt64 ∧ f 88 = P.2.2.1.toInt64 ∧ f 89 = P.2.2.2.2.1.toInt64 ∧ f 91 = T.toInt64 ∧
  f 92 = A.2.1.toInt64 ∧ (∀ j, j < 12 → f (93 + j) = (A.1 j).toInt64) ∧ f 105 = A.2.2.1.toInt64 ∧ f 106 = A.2.2.2.1.toInt64 ∧
  f 107 = A.2.2.2.2.1 ∧ f 108 = A.2.2.2.2.2.1 ∧ f 109 = A.2.2.2.2.2.2.1 ∧ f 110 = A.2.2.2.2.2.2.2.1 ∧ f 111 = A.2.2.2.2.2.2.2.2.1 ∧ f 112 = A.2.2.2.2.2.2.2.2.2.1 ∧ f 113 = A.2.2.2.2.2.2.2.2.2.2 ∧
  (∀ j, j < 60 → f (114 + j) = (P.2.2.2.2.2.2 j).toInt64) ∧ (f 86 = 2 → f 91 - f 90 = P.2.2.2.1.toInt64) ∧ bP N P ∧ bA N A
def rl (M : Int) (u : PlS) (f : Nat → Int64) : Prop := rs (pS u) (pW u) (pK u) (pB u).2 f ∧ rd (1000 + 3 * (pT u).toInt) (pB u).1 (pP u) (pA u) (pT u) f ∧ 0 ≤ (pT u).toInt ∧ (pT u).toInt ≤ M
theorem cpy_e (u v : PlS) : F5_copyFrom u v = (pS v, pW v, pK v, pB v, pP v, pA v, pC u, pT v) := rfl
/-- the passing conditions are no part of the relation -/
theorem rl_cpy {M : Int} {u v : PlS} {f : Nat → Int64} (h : rl M v f) : rl M (F5_copyFrom u v) f := h
theorem rs_of {S : SS} {W : SW} {K : SK} {c : Int32} {f g : Nat → Int64} (h : rs S W K c f) (e : ∀ j, j ≤ 81 → g j = f j) : rs S W K c g := by
  obtain ⟨h1, h2, h3, h4, ⟨k1, k2, k3, k4, k5, k6, k7⟩, h6, h7⟩ := h
  refine ⟨fun j hj => (e _ (by omega)).trans (h1 j hj), fun j hj => (e _ (by omega)).trans (h2 j hj), fun j hj => (e _ (by omega)).trans (h3 j hj), fun j hj => (e _ (by omega)).trans (h4 j hj), ⟨(e _ (by omega)).trans k1, k2, k3, k4, fun i hi => ?_, fun j hj => ?_, fun i j hij hj => ?_⟩, (e _ (by omega)).trans h6, h7⟩
  · obtain ⟨j, hj, a, b⟩ := k5 i hi
    exact ⟨j, hj, (e _ (by omega)).trans a, (e _ (by omega)).trans b⟩
  · obtain ⟨i, hi, a, b⟩ := k6 j hj
    exact ⟨i, hi, (e _ (by omega)).trans a, (e _ (by omega)).trans b⟩
  · rw [e _ (by omega), e _ (by omega)]
    exact k7 i j hij hj
theorem rd_of {N : Int} {E : Nat → Int64} {P : SP} {A : SA} {T : Int32} {f g : Nat → Int64} (h : rd N E P A T f) (e : ∀ j, 82 ≤ j → j < 174 → g j = f j) : rd N E P A T g := by
  have e' : ∀ j, 82 ≤ j → j < 174 → f j = g j := fun j h1 h2 => (e j h1 h2).symm
  obtain ⟨h7, h8, h9, h10, h11, h12, h13, h14, h15, h16, h17, h18, h19, h20, h21, h22, h23, h24, h25, h26⟩ := h
  refine ⟨fun j hj => (e _ (by omega) (by omega)).trans (h7 j hj), (e _ (by omega) (by omega)).trans h8, (e _ (by omega) (by omega)).trans h9, (e _ (by omega) (by omega)).trans h10, (e _ (by omega) (by omega)).trans h11, (e _ (by omega) (by omega)).trans h12, (e _ (by omega) (by omega)).trans h13, fun j hj => (e _ (by omega) (by omega)).trans (h14 j hj), (e _ (by omega) (by omega)).trans h15, (e _ (by omega) (by omega)).trans h16, (e _ (by omega) (by omega)).trans h17, (e _ (by omega) (by omega)).trans h18, (e _ (by omega) (by omega)).trans h19, (e _ (by omega) (by omega)).trans h20, (e _ (by omega) (by omega)).trans h21, (e _ (by omega) (by omega)).trans h22, (e _ (by omega) (by omega)).trans h23, fun j hj => (e _ (by omega) (by omega)).trans (h24 j hj), fun hm => ?_, h26⟩
  rw [e 91 (by omega) (by omega), e 90 (by omega) (by omega)]
  exact h25 (by rw [e' 86 (by omega) (by omega)]; exact hm)
theorem rl_of {M : Int} {u : PlS} {f g : Nat → Int64} (h : rl M u f) (e : ∀ j, j < 174 → g j = f j) : rl M u g := ⟨rs_of h.1 (fun j hj => e j (by omega)), rd_of h.2.1 (fun j _ hj => e j hj), h.2.2⟩
/-- the remembered plants, the oldest first -/
def rH (o k : Nat) (h : Nat → PlS) (f : Nat → Int64) : Prop := ∀ i, i < k → rl 100000 (h ((o + i) % 4)) (fun j => f (174 * (i + 1) + j))
