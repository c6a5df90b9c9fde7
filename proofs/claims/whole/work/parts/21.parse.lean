/-! what a reader reads, told by the codes, their number and the place alone -/
def pk (g : SS) (n a : Nat) : Int32 := if n ≤ a then (-1 : Int32) else g a
def pD (g : SS) (n a : Nat) (lo hi : Int32) : Bool := F11_in (pk g n a).toInt64 (((48 : Int32) + lo).toInt64) (((48 : Int32) + hi).toInt64)
def pH (g : SS) (n a : Nat) : Bool × Nat × Int32 :=
  if pD g n a 0 9 = true then
    if pk g n a - (48 : Int32) = 1 then
      if pD g n (a + 1) 0 9 = true then (true, a + 1 + 1, (10 : Int32) * (pk g n a - (48 : Int32)) + pk g n (a + 1) - (48 : Int32)) else (true, a + 1, pk g n a - (48 : Int32))
    else if pk g n a - (48 : Int32) = 2 then
      if pD g n (a + 1) 0 3 = true then (true, a + 1 + 1, (10 : Int32) * (pk g n a - (48 : Int32)) + pk g n (a + 1) - (48 : Int32)) else (true, a + 1, pk g n a - (48 : Int32))
    else (true, a + 1, pk g n a - (48 : Int32))
  else (false, a, 0)
def pLo (g : SS) (n : Nat) : Nat → Nat → Nat → Int32 → Nat × Int32
  | 0, _, a, m => (a, m)
  | fu + 1, i, a, m => if 3 ≤ i then (a, m) else if m ≤ (0 : Int32) then (a, m) else if pD g n a 0 9 = true then pLo g n fu (i + 1) (a + 1) ((10 : Int32) * m + pk g n a - (48 : Int32)) else (a, m)
def pGa (g : SS) (n a : Nat) : Nat := if pk g n a = 45 then a + 1 else a
def pZ (g : SS) (n a : Nat) : Bool × Nat × Int32 :=
  if pD g n (pGa g n a) 0 9 = true then (true, (pLo g n 4 1 (pGa g n a + 1) (pk g n (pGa g n a) - (48 : Int32))).1, if pk g n a = 45 then -(pLo g n 4 1 (pGa g n a + 1) (pk g n (pGa g n a) - (48 : Int32))).2 else (pLo g n 4 1 (pGa g n a + 1) (pk g n (pGa g n a) - (48 : Int32))).2)
  else (false, pGa g n a, 0)
def pSm (g : SS) (n a : Nat) : Nat := if pk g n a = 59 then a + 1 else a
/-- the letter of a tariff -/
def pLt (c : Int32) : Int32 := if c = 99 then 0 else if c = 110 then 1 else if c = 112 then 2 else -1
def pLa (c : Int32) (a : Nat) : Nat := if c = 99 then a + 1 else if c = 110 then a + 1 else if c = 112 then a + 1 else a
def pTl (g : SS) (n a : Nat) (f t : Int32) : Bool × Nat × Int32 × Int32 × Int32 × Int32 :=
  if pk g n a = 58 then
    if (pZ g n (a + 1)).1 = true then (decide (pk g n (pLa (pk g n (pZ g n (a + 1)).2.1) (pZ g n (a + 1)).2.1) = 59), pSm g n (pLa (pk g n (pZ g n (a + 1)).2.1) (pZ g n (a + 1)).2.1), f, t, (pZ g n (a + 1)).2.2, pLt (pk g n (pZ g n (a + 1)).2.1))
    else (false, (pZ g n (a + 1)).2.1, 0, 0, 0, 0)
  else (false, a, 0, 0, 0, 0)
def pE (g : SS) (n a : Nat) : Bool × Nat × Int32 × Int32 × Int32 × Int32 :=
  if (pH g n a).1 = true then
    if pk g n (pH g n a).2.1 = 45 then
      if (pH g n ((pH g n a).2.1 + 1)).1 = true then pTl g n (pH g n ((pH g n a).2.1 + 1)).2.1 (pH g n a).2.2 (pH g n ((pH g n a).2.1 + 1)).2.2
      else (false, (pH g n a).2.1 + 1, 0, 0, 0, 0)
    else pTl g n (pH g n a).2.1 (pH g n a).2.2 (pH g n a).2.2
  else (false, a, 0, 0, 0, 0)
theorem peek_n (x : MoN) (g : SS) : F11_peek x g = pk g x.2.1 x.2.2.1 := rfl
theorem dig_n (x : MoN) (g : SS) (lo hi : Int32) : F11_isDigit x g lo hi = pD g x.2.1 x.2.2.1 lo hi := rfl
theorem tk_pos {x : MoN} {g : SS} {p : Int32} (c : pk g x.2.1 x.2.2.1 = p) : F11_takes x g p = (true, (x.1, x.2.1, x.2.2.1 + 1, x.2.2.2)) := by
  unfold F11_takes
  rw [peek_n, if_pos c, decide_eq_true c]
theorem tk_neg {x : MoN} {g : SS} {p : Int32} (c : ¬ pk g x.2.1 x.2.2.1 = p) : F11_takes x g p = (false, x) := by
  unfold F11_takes
  rw [peek_n, if_neg c, decide_eq_false c]
  rfl
theorem th_pos {x : MoN} {g : SS} (c : (pH g x.2.1 x.2.2.1).1 = true) : F11_takesHour x g = (true, (x.1, x.2.1, (pH g x.2.1 x.2.2.1).2.1, (pH g x.2.1 x.2.2.1).2.2, x.2.2.2.2)) := by
  unfold F11_takesHour
  unfold pH at c ⊢
  by_cases c1 : pD g x.2.1 x.2.2.1 0 9 = true
  · rw [if_pos (show F11_isDigit x g 0 9 = true from c1)]
    simp only [if_pos c1] at c ⊢
    by_cases c2 : pk g x.2.1 x.2.2.1 - (48 : Int32) = 1
    · have c3 : ¬ F11_peek x g - (48 : Int32) = 2 := by
        rw [show F11_peek x g - (48 : Int32) = 1 from c2]
        decide
      rw [if_pos (show F11_peek x g - (48 : Int32) = 1 from c2), if_neg c3]
      simp only [if_pos c2] at c ⊢
      split
      · rename_i h4
        have c4 : pD g x.2.1 (x.2.2.1 + 1) 0 9 = true := h4
        simp only [if_pos c4]
        rfl
      · rename_i h4
        have c4 : ¬ pD g x.2.1 (x.2.2.1 + 1) 0 9 = true := h4
        simp only [if_neg c4]
        rfl
    · rw [if_neg (show ¬ F11_peek x g - (48 : Int32) = 1 from c2)]
      simp only [if_neg c2] at c ⊢
      by_cases c3 : pk g x.2.1 x.2.2.1 - (48 : Int32) = 2
      · rw [if_pos (show F11_peek x g - (48 : Int32) = 2 from c3)]
        simp only [if_pos c3] at c ⊢
        split
        · rename_i h4
          have c4 : pD g x.2.1 (x.2.2.1 + 1) 0 3 = true := h4
          simp only [if_pos c4]
          rfl
        · rename_i h4
          have c4 : ¬ pD g x.2.1 (x.2.2.1 + 1) 0 3 = true := h4
          simp only [if_neg c4]
          rfl
      · rw [if_neg (show ¬ F11_peek x g - (48 : Int32) = 2 from c3)]
        simp only [if_neg c3]
        rfl
  · simp only [if_neg c1] at c
    cases c
theorem th_neg {x : MoN} {g : SS} (c : ¬ (pH g x.2.1 x.2.2.1).1 = true) : F11_takesHour x g = (false, x) := by
  unfold F11_takesHour
  by_cases c1 : F11_isDigit x g 0 9 = true
  · exfalso
    apply c
    unfold pH
    rw [if_pos (show pD g x.2.1 x.2.2.1 0 9 = true from c1)]
    repeat' split
    all_goals rfl
  · rw [if_neg c1]
theorem pLo_e (x0 : MoN) (g : SS) (z1 : Bool × MoN) (fu i : Nat) (x : MoN) : i ≤ 3 → 3 - i < fu → ∃ m, L11_takesDegrees_42 x0 g z1 fu i x = (m, (x.1, x.2.1, (pLo g x.2.1 fu i x.2.2.1 x.2.2.2.1).1, (pLo g x.2.1 fu i x.2.2.1 x.2.2.2.1).2, x.2.2.2.2)) := by
  induction fu generalizing i x with
  | zero => intro _ h; exact absurd h (by omega)
  | succ fu ih =>
    intro h1 h2
    unfold L11_takesDegrees_42 pLo
    by_cases c1 : 3 ≤ i
    · rw [if_pos c1, if_pos c1]; exact ⟨_, rfl⟩
    · rw [if_neg c1, if_neg c1]
      by_cases c2 : x.2.2.2.1 ≤ (0 : Int32)
      · rw [if_pos c2, if_pos c2]; exact ⟨_, rfl⟩
      · rw [if_neg c2, if_neg c2]
        by_cases c3 : pD g x.2.1 x.2.2.1 0 9 = true
        · rw [if_pos (show F11_isDigit x g 0 9 = true from c3), if_pos c3]
          exact ih (i + 1) (x.1, x.2.1, (x.2.2.1 + 1), ((((10 : Int32) * x.2.2.2.1) + (F11_peek x g)) - (48 : Int32)), x.2.2.2.2.1, x.2.2.2.2.2.1, x.2.2.2.2.2.2.1, x.2.2.2.2.2.2.2) (by omega) (by omega)
        · rw [if_neg (show ¬ F11_isDigit x g 0 9 = true from c3), if_neg c3]; exact ⟨_, rfl⟩
theorem td_eq (x : MoN) (g : SS) : F11_takesDegrees x g = K11_takesDegrees_1 x g (decide (pk g x.2.1 x.2.2.1 = 45), (x.1, x.2.1, pGa g x.2.1 x.2.2.1, x.2.2.2)) := by
  unfold F11_takesDegrees pGa
  by_cases c : pk g x.2.1 x.2.2.1 = 45
  · rw [tk_pos c, if_pos c, decide_eq_true c]
  · rw [tk_neg c, if_neg c, decide_eq_false c]
theorem td_pos {x : MoN} {g : SS} (c : (pZ g x.2.1 x.2.2.1).1 = true) : ∃ m, F11_takesDegrees x g = (true, (x.1, x.2.1, (pZ g x.2.1 x.2.2.1).2.1, m, x.2.2.2.2.1, x.2.2.2.2.2.1, (pZ g x.2.1 x.2.2.1).2.2, x.2.2.2.2.2.2.2)) := by
  rw [td_eq]
  unfold pZ at c ⊢
  by_cases c1 : pD g x.2.1 (pGa g x.2.1 x.2.2.1) 0 9 = true
  · simp only [if_pos c1]
    unfold K11_takesDegrees_1
    rw [if_pos (show F11_isDigit (x.1, x.2.1, pGa g x.2.1 x.2.2.1, x.2.2.2) g 0 9 = true from c1)]
    obtain ⟨m, e⟩ := pLo_e x g (decide (pk g x.2.1 x.2.2.1 = 45), (x.1, x.2.1, pGa g x.2.1 x.2.2.1, x.2.2.2)) 4 1 (x.1, x.2.1, pGa g x.2.1 x.2.2.1 + 1, pk g x.2.1 (pGa g x.2.1 x.2.2.1) - (48 : Int32), x.2.2.2.2) (by omega) (by omega)
    refine ⟨(pLo g x.2.1 4 1 (pGa g x.2.1 x.2.2.1 + 1) (pk g x.2.1 (pGa g x.2.1 x.2.2.1) - (48 : Int32))).2, ?_⟩
    refine (congrArg (K11_takesDegrees_2 x g (decide (pk g x.2.1 x.2.2.1 = 45), (x.1, x.2.1, pGa g x.2.1 x.2.2.1, x.2.2.2))) e).trans ?_
    unfold K11_takesDegrees_2
    by_cases c2 : pk g x.2.1 x.2.2.1 = 45
    · rw [decide_eq_true c2, if_pos c2]; rfl
    · rw [decide_eq_false c2, if_neg c2]; rfl
  · rw [if_neg c1] at c
    cases c
theorem td_neg {x : MoN} {g : SS} (c : ¬ (pZ g x.2.1 x.2.2.1).1 = true) : F11_takesDegrees x g = (false, (x.1, x.2.1, (pZ g x.2.1 x.2.2.1).2.1, x.2.2.2)) := by
  rw [td_eq]
  unfold pZ at c ⊢
  by_cases c1 : pD g x.2.1 (pGa g x.2.1 x.2.2.1) 0 9 = true
  · rw [if_pos c1] at c
    exact absurd rfl c
  · rw [if_neg c1]
    unfold K11_takesDegrees_1
    rw [if_neg (show ¬ F11_isDigit (x.1, x.2.1, pGa g x.2.1 x.2.2.1, x.2.2.2) g 0 9 = true from c1)]

def tR (r : Bool × MoN) (k n : Nat) (q : Bool × Nat × Int32 × Int32 × Int32 × Int32) : Prop := r.1 = q.1 ∧ r.2.1 = k ∧ r.2.2.1 = n ∧ r.2.2.2.1 = q.2.1 ∧ (q.1 = true → r.2.2.2.2.2 = q.2.2)
theorem sm_ok (y : MoN) (g : SS) : tR ((F11_takes y g 59).1, (F11_takes y g 59).2) y.1 y.2.1 (decide (pk g y.2.1 y.2.2.1 = 59), pSm g y.2.1 y.2.2.1, y.2.2.2.2) := by
  unfold pSm
  by_cases c : pk g y.2.1 y.2.2.1 = 59
  · rw [tk_pos c, if_pos c, decide_eq_true c]
    exact ⟨rfl, rfl, rfl, rfl, fun _ => rfl⟩
  · rw [tk_neg c, if_neg c, decide_eq_false c]
    exact ⟨rfl, rfl, rfl, rfl, fun _ => rfl⟩
theorem tl1b (x0 : MoN) (g : SS) (w0 : Bool × MoN) (w1 : Bool × MoN) (w2 : Bool × MoN) (w3 : Bool × MoN) (y : MoN) : tR (K11_takesEntry_5 x0 g w0 w1 w2 w3 (F11_takes y g 99)) y.1 y.2.1 (decide (pk g y.2.1 (pLa (pk g y.2.1 y.2.2.1) y.2.2.1) = 59), pSm g y.2.1 (pLa (pk g y.2.1 y.2.2.1) y.2.2.1), y.2.2.2.2.1, y.2.2.2.2.2.1, y.2.2.2.2.2.2.1, pLt (pk g y.2.1 y.2.2.1)) := by
  unfold K11_takesEntry_5 pLa pLt
  by_cases c1 : pk g y.2.1 y.2.2.1 = 99
  · rw [tk_pos c1]
    simp only [if_pos c1]
    exact sm_ok (y.1, y.2.1, y.2.2.1 + 1, y.2.2.2.1, y.2.2.2.2.1, y.2.2.2.2.2.1, y.2.2.2.2.2.2.1, (0 : Int32)) g
  · rw [tk_neg c1]
    simp only [if_neg c1]
    rw [if_neg Bool.false_ne_true]
    unfold K11_takesEntry_6
    by_cases c2 : pk g y.2.1 y.2.2.1 = 110
    · rw [tk_pos c2]
      simp only [if_pos c2]
      exact sm_ok (y.1, y.2.1, y.2.2.1 + 1, y.2.2.2.1, y.2.2.2.2.1, y.2.2.2.2.2.1, y.2.2.2.2.2.2.1, (1 : Int32)) g
    · rw [tk_neg c2]
      simp only [if_neg c2]
      rw [if_neg Bool.false_ne_true]
      unfold K11_takesEntry_7
      by_cases c3 : pk g y.2.1 y.2.2.1 = 112
      · rw [tk_pos c3]
        simp only [if_pos c3]
        exact sm_ok (y.1, y.2.1, y.2.2.1 + 1, y.2.2.2.1, y.2.2.2.2.1, y.2.2.2.2.2.1, y.2.2.2.2.2.2.1, (2 : Int32)) g
      · rw [tk_neg c3]
        simp only [if_neg c3]
        rw [if_neg Bool.false_ne_true]
        exact sm_ok (y.1, y.2.1, y.2.2.1, y.2.2.2.1, y.2.2.2.2.1, y.2.2.2.2.2.1, y.2.2.2.2.2.2.1, (-1 : Int32)) g
theorem tl1 (x0 : MoN) (g : SS) (w0 : Bool × MoN) (w1 : Bool × MoN) (y : MoN) : tR (K11_takesEntry_3 x0 g w0 w1 (F11_takes y g 58)) y.1 y.2.1 (pTl g y.2.1 y.2.2.1 y.2.2.2.2.1 y.2.2.2.2.2.1) := by
  unfold pTl
  by_cases c1 : pk g y.2.1 y.2.2.1 = 58
  · rw [tk_pos c1, if_pos c1]
    unfold K11_takesEntry_3
    rw [if_pos rfl]
    by_cases c2 : (pZ g y.2.1 (y.2.2.1 + 1)).1 = true
    · rw [if_pos c2]
      obtain ⟨m, e⟩ := td_pos (x := (y.1, y.2.1, y.2.2.1 + 1, y.2.2.2)) (g := g) c2
      rw [e]
      unfold K11_takesEntry_4
      rw [if_pos rfl]
      exact tl1b x0 g w0 w1 _ _ (y.1, y.2.1, (pZ g y.2.1 (y.2.2.1 + 1)).2.1, m, y.2.2.2.2.1, y.2.2.2.2.2.1, (pZ g y.2.1 (y.2.2.1 + 1)).2.2, y.2.2.2.2.2.2.2)
    · rw [if_neg c2, td_neg (x := (y.1, y.2.1, y.2.2.1 + 1, y.2.2.2)) (g := g) c2]
      unfold K11_takesEntry_4
      rw [if_neg Bool.false_ne_true]
      exact ⟨rfl, rfl, rfl, rfl, fun h => by cases h⟩
  · rw [tk_neg c1, if_neg c1]
    unfold K11_takesEntry_3
    rw [if_neg Bool.false_ne_true]
    exact ⟨rfl, rfl, rfl, rfl, fun h => by cases h⟩
theorem tl2b (x0 : MoN) (g : SS) (w0 : Bool × MoN) (w1 : Bool × MoN) (w2 : Bool × MoN) (w3 : Bool × MoN) (w4 : Bool × MoN) (y : MoN) : tR (K11_takesEntry_15 x0 g w0 w1 w2 w3 w4 (F11_takes y g 99)) y.1 y.2.1 (decide (pk g y.2.1 (pLa (pk g y.2.1 y.2.2.1) y.2.2.1) = 59), pSm g y.2.1 (pLa (pk g y.2.1 y.2.2.1) y.2.2.1), y.2.2.2.2.1, y.2.2.2.2.2.1, y.2.2.2.2.2.2.1, pLt (pk g y.2.1 y.2.2.1)) := by
  unfold K11_takesEntry_15 pLa pLt
  by_cases c1 : pk g y.2.1 y.2.2.1 = 99
  · rw [tk_pos c1]
    simp only [if_pos c1]
    exact sm_ok (y.1, y.2.1, y.2.2.1 + 1, y.2.2.2.1, y.2.2.2.2.1, y.2.2.2.2.2.1, y.2.2.2.2.2.2.1, (0 : Int32)) g
  · rw [tk_neg c1]
    simp only [if_neg c1]
    rw [if_neg Bool.false_ne_true]
    unfold K11_takesEntry_16
    by_cases c2 : pk g y.2.1 y.2.2.1 = 110
    · rw [tk_pos c2]
      simp only [if_pos c2]
      exact sm_ok (y.1, y.2.1, y.2.2.1 + 1, y.2.2.2.1, y.2.2.2.2.1, y.2.2.2.2.2.1, y.2.2.2.2.2.2.1, (1 : Int32)) g
    · rw [tk_neg c2]
      simp only [if_neg c2]
      rw [if_neg Bool.false_ne_true]
      unfold K11_takesEntry_17
      by_cases c3 : pk g y.2.1 y.2.2.1 = 112
      · rw [tk_pos c3]
        simp only [if_pos c3]
        exact sm_ok (y.1, y.2.1, y.2.2.1 + 1, y.2.2.2.1, y.2.2.2.2.1, y.2.2.2.2.2.1, y.2.2.2.2.2.2.1, (2 : Int32)) g
      · rw [tk_neg c3]
        simp only [if_neg c3]
        rw [if_neg Bool.false_ne_true]
        exact sm_ok (y.1, y.2.1, y.2.2.1, y.2.2.2.1, y.2.2.2.2.1, y.2.2.2.2.2.1, y.2.2.2.2.2.2.1, (-1 : Int32)) g
theorem tl2 (x0 : MoN) (g : SS) (w0 : Bool × MoN) (w1 : Bool × MoN) (w2 : Bool × MoN) (y : MoN) : tR (K11_takesEntry_13 x0 g w0 w1 w2 (F11_takes y g 58)) y.1 y.2.1 (pTl g y.2.1 y.2.2.1 y.2.2.2.2.1 y.2.2.2.2.2.1) := by
  unfold pTl
  by_cases c1 : pk g y.2.1 y.2.2.1 = 58
  · rw [tk_pos c1, if_pos c1]
    unfold K11_takesEntry_13
    rw [if_pos rfl]
    by_cases c2 : (pZ g y.2.1 (y.2.2.1 + 1)).1 = true
    · rw [if_pos c2]
      obtain ⟨m, e⟩ := td_pos (x := (y.1, y.2.1, y.2.2.1 + 1, y.2.2.2)) (g := g) c2
      rw [e]
      unfold K11_takesEntry_14
      rw [if_pos rfl]
      exact tl2b x0 g w0 w1 w2 _ _ (y.1, y.2.1, (pZ g y.2.1 (y.2.2.1 + 1)).2.1, m, y.2.2.2.2.1, y.2.2.2.2.2.1, (pZ g y.2.1 (y.2.2.1 + 1)).2.2, y.2.2.2.2.2.2.2)
    · rw [if_neg c2, td_neg (x := (y.1, y.2.1, y.2.2.1 + 1, y.2.2.2)) (g := g) c2]
      unfold K11_takesEntry_14
      rw [if_neg Bool.false_ne_true]
      exact ⟨rfl, rfl, rfl, rfl, fun h => by cases h⟩
  · rw [tk_neg c1, if_neg c1]
    unfold K11_takesEntry_13
    rw [if_neg Bool.false_ne_true]
    exact ⟨rfl, rfl, rfl, rfl, fun h => by cases h⟩
theorem te_eq (x : MoN) (g : SS) : tR (F11_takesEntry x g) x.1 x.2.1 (pE g x.2.1 x.2.2.1) := by
  unfold F11_takesEntry pE
  by_cases c1 : (pH g x.2.1 x.2.2.1).1 = true
  · rw [th_pos c1, if_pos c1]
    unfold K11_takesEntry_1
    rw [if_pos rfl]
    by_cases c2 : pk g x.2.1 (pH g x.2.1 x.2.2.1).2.1 = 45
    · rw [if_pos c2]
      rw [tk_pos (x := (x.1, x.2.1, (pH g x.2.1 x.2.2.1).2.1, (pH g x.2.1 x.2.2.1).2.2, (pH g x.2.1 x.2.2.1).2.2, (pH g x.2.1 x.2.2.1).2.2, x.2.2.2.2.2.2.1, x.2.2.2.2.2.2.2)) c2]
      unfold K11_takesEntry_2
      rw [if_pos rfl]
      by_cases c3 : (pH g x.2.1 ((pH g x.2.1 x.2.2.1).2.1 + 1)).1 = true
      · rw [if_pos c3, th_pos (x := (x.1, x.2.1, (pH g x.2.1 x.2.2.1).2.1 + 1, (pH g x.2.1 x.2.2.1).2.2, (pH g x.2.1 x.2.2.1).2.2, (pH g x.2.1 x.2.2.1).2.2, x.2.2.2.2.2.2.1, x.2.2.2.2.2.2.2)) c3]
        unfold K11_takesEntry_12
        rw [if_pos rfl]
        exact tl2 x g _ _ _ (x.1, x.2.1, (pH g x.2.1 ((pH g x.2.1 x.2.2.1).2.1 + 1)).2.1, (pH g x.2.1 ((pH g x.2.1 x.2.2.1).2.1 + 1)).2.2, (pH g x.2.1 x.2.2.1).2.2, (pH g x.2.1 ((pH g x.2.1 x.2.2.1).2.1 + 1)).2.2, x.2.2.2.2.2.2.1, x.2.2.2.2.2.2.2)
      · rw [if_neg c3, th_neg (x := (x.1, x.2.1, (pH g x.2.1 x.2.2.1).2.1 + 1, (pH g x.2.1 x.2.2.1).2.2, (pH g x.2.1 x.2.2.1).2.2, (pH g x.2.1 x.2.2.1).2.2, x.2.2.2.2.2.2.1, x.2.2.2.2.2.2.2)) c3]
        unfold K11_takesEntry_12
        rw [if_neg Bool.false_ne_true]
        exact ⟨rfl, rfl, rfl, rfl, fun h => by cases h⟩
    · rw [if_neg c2]
      rw [tk_neg (x := (x.1, x.2.1, (pH g x.2.1 x.2.2.1).2.1, (pH g x.2.1 x.2.2.1).2.2, (pH g x.2.1 x.2.2.1).2.2, (pH g x.2.1 x.2.2.1).2.2, x.2.2.2.2.2.2.1, x.2.2.2.2.2.2.2)) c2]
      unfold K11_takesEntry_2
      rw [if_neg Bool.false_ne_true]
      exact tl1 x g _ _ (x.1, x.2.1, (pH g x.2.1 x.2.2.1).2.1, (pH g x.2.1 x.2.2.1).2.2, (pH g x.2.1 x.2.2.1).2.2, (pH g x.2.1 x.2.2.1).2.2, x.2.2.2.2.2.2.1, x.2.2.2.2.2.2.2)
  · rw [th_neg c1, if_neg c1]
    unfold K11_takesEntry_1
    rw [if_neg Bool.false_ne_true]
    exact ⟨rfl, rfl, rfl, rfl, fun h => by cases h⟩
