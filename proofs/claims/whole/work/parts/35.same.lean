/-! the model's object plays no part in a minute -/
theorem sup_i (x0 y0 : MoN) (f : Nat → Int64) (p : Int64) : F11_supplyAt x0 f p = F11_supplyAt y0 f p := by
  have h : ∀ fu i b a, L11_supplyAt_8 x0 f p fu i b a = L11_supplyAt_8 y0 f p fu i b a := by
    intro fu
    induction fu with
    | zero => intro i b a; rfl
    | succ fu ih =>
      intro i b a
      unfold L11_supplyAt_8
      split
      · rfl
      · unfold K11_supplyAt_1 K11_supplyAt_2
        exact ih _ _ _
  unfold F11_supplyAt
  rw [h]
  rfl
theorem tgt_i (x0 y0 : MoN) (f : Nat → Int64) (p : Nat) : F11_targetOf x0 f p = F11_targetOf y0 f p := by
  unfold F11_targetOf
  rw [sup_i x0 y0]
theorem sla_i (x0 y0 : MoN) (f : Nat → Int64) : F11_startsLately x0 f = F11_startsLately y0 f := by
  have h : ∀ fu i r, L11_startsLately_4 x0 f fu i r = L11_startsLately_4 y0 f fu i r := by
    intro fu
    induction fu with
    | zero => intro i r; rfl
    | succ fu ih =>
      intro i r
      unfold L11_startsLately_4
      split
      · rfl
      · exact ih _ _
  unfold F11_startsLately
  rw [h]
  rfl
theorem rof_i (x0 y0 : MoN) (f : Nat → Int64) (p q : Int64) : F11_ruleOff x0 f p q = F11_ruleOff y0 f p q := by
  unfold F11_ruleOff
  rw [sla_i x0 y0]
theorem rul_i (x0 y0 : MoN) (f : Nat → Int64) (p q : Int64) : F11_rule x0 f p q = F11_rule y0 f p q := by
  unfold F11_rule
  rw [rof_i x0 y0]
theorem set_i1 (x0 y0 : MoN) (u v : Nat → Int64) : ∀ fu i f, L11_settles_2 x0 u fu i f = L11_settles_2 y0 v fu i f := by
  intro fu
  induction fu with
  | zero => intro i f; rfl
  | succ fu ih =>
    intro i f
    unfold L11_settles_2
    split
    · rfl
    · exact ih _ _
theorem set_i2 (x0 y0 : MoN) (u v : Nat → Int64) (a a' : Nat × (Nat → Int64)) (b b' c c' d d' : Nat → Int64) : ∀ fu i f, L11_settles_164 x0 u a b c d fu i f = L11_settles_164 y0 v a' b' c' d' fu i f := by
  intro fu
  induction fu with
  | zero => intro i f; rfl
  | succ fu ih =>
    intro i f
    unfold L11_settles_164
    split
    · rfl
    · split
      · exact ih _ _
      · exact ih _ _
/-- the levelling of neighbours, and the pump's own three steps, without what they carry along -/
def gSwap (k : Nat) (f : Nat → Int64) : Nat → Int64 := if F11_warmth f (k + 1) ≤ F11_warmth f k then f else vp_updL (vp_updL f (82 + (k + 1)) (F11_div (f (82 + k) + f (82 + (k + 1))) 2)) (82 + k) (f (82 + k) + f (82 + (k + 1)) - F11_div (f (82 + k) + f (82 + (k + 1))) 2)
theorem settles_e (x0 : MoN) (f : Nat → Int64) : F11_settles x0 f = (L11_settles_164 x0 f (0, f) f f f 4 0 (gSwap 0 (gSwap 1 (gSwap 2 (L11_settles_2 x0 f 5 0 f).2)))).2 := by
  unfold F11_settles K11_settles_1 K11_settles_2 K11_settles_3 K11_settles_4 K11_settles_5
  rw [set_i2 x0 x0 f f _ (0, f) _ f _ f _ f]
  rfl
theorem settles_i (x0 y0 : MoN) (f : Nat → Int64) : F11_settles x0 f = F11_settles y0 f := by
  rw [settles_e, settles_e, set_i1 x0 y0 f f, set_i2 x0 y0 f f (0, f) (0, f) f f f f f f]
theorem min_i (x0 y0 : MoN) (f : Nat → Int64) : F11_minute x0 f = F11_minute y0 f := by
  unfold F11_minute K11_minute_1 K11_minute_2 K11_minute_3 K11_minute_4 K11_minute_5
  rw [tgt_i x0 y0, show B11_minute_52 x0 f = B11_minute_52 y0 f from rfl, rul_i x0 y0, settles_i x0 y0]
  rfl
theorem w_rep {α : Type} (h : α → α) : ∀ (k : Nat) (y : α), Nat.repeat h (k + 1) y = Nat.repeat h k (h y) := by
  intro k
  induction k with
  | zero => intro y; rfl
  | succ k ih => intro y; exact congrArg h (ih y)
theorem mns_e (x0 : MoN) (f : Nat → Int64) (n fu i : Nat) (g : Nat → Int64) : i ≤ n → n - i < fu → (L11_minutes_2 x0 f n fu i g).2 = Nat.repeat (F11_minute x0) (n - i) g := by
  induction fu generalizing i g with
  | zero => intro _ h; exact absurd h (by omega)
  | succ fu ih =>
    intro h1 h2
    unfold L11_minutes_2
    by_cases h : n ≤ i
    · rw [if_pos h, show n - i = 0 by omega]
      rfl
    · rw [if_neg h]
      have hk : n - i = (n - (i + 1)) + 1 := by omega
      rw [hk, w_rep]
      exact ih _ _ (by omega) (by omega)
/-- so many minutes, one after another -/
theorem minutes_e (x0 : MoN) (f : Nat → Int64) (n : Nat) : F11_minutes x0 f n = Nat.repeat (F11_minute x0) n f := by
  unfold F11_minutes K11_minutes_2
  exact mns_e x0 f n _ _ _ (by omega) (by omega)
