/-! what always holds of a plant -/
def mOf (r : Int32) : Int32 := if r = 0 then 2 else if r = 4 then 2 else if r = 2 then 1 else if r = 5 then 1 else if r = 11 then 1 else 0
def sI (f : Nat → Int32) : Nat → Int
  | 0 => 0
  | n + 1 => sI f n + (f n).toInt
def s32 (f : Nat → Int32) : Nat → Int32
  | 0 => 0
  | n + 1 => s32 f n + f n
def iS (S : SS) : Prop := ∀ j, j < 17 → (sLE j).toInt ≤ (S j).toInt ∧ (S j).toInt ≤ (sMO j).toInt
def iW (W : SW) : Prop := (∀ j, j < 24 → -300 ≤ (W.1 j).toInt ∧ (W.1 j).toInt ≤ 400) ∧ (∀ j, j < 24 → 0 ≤ (W.2.1 j).toInt ∧ (W.2.1 j).toInt ≤ 2) ∧ (∀ j, j < 3 → 0 ≤ (W.2.2 j).toInt ∧ (W.2.2 j).toInt ≤ 1000)
def iK (K : SK) : Prop := 1 ≤ K.2.2.toInt ∧ K.2.2.toInt ≤ 6
def iB (B : SB) (t : Int) : Prop := 100 ≤ B.2.toInt ∧ B.2.toInt ≤ 5000 ∧ bdE (4000000 + 30000 * t) B.1
def iP (P : SP) (A : SA) (t : Int) : Prop := (P.1 = 0 ∨ P.1 = 1 ∨ P.1 = 2) ∧ (t = 0 → A.2.1 = (-9999 : Int32) ∧ P.1 = 0) ∧ (0 < t → 0 ≤ A.2.1.toInt ∧ A.2.1.toInt ≤ 11 ∧ P.1 = mOf A.2.1)
def iF (P : SP) (A : SA) (t : Int) : Prop := (0 ≤ P.2.2.2.2.1.toInt ∧ P.2.2.2.2.1.toInt ≤ t) ∧ (∀ j, j < 60 → 0 ≤ (P.2.2.2.2.2.2 j).toInt ∧ (P.2.2.2.2.2.2 j).toInt ≤ 1) ∧ P.2.2.2.2.2.1.toInt = sI P.2.2.2.2.2.2 60 ∧ P.2.2.2.2.2.1.toInt ≤ A.2.2.1.toInt ∧ 0 ≤ A.2.2.1.toInt ∧ A.2.2.1.toInt ≤ t
def iA (A : SA) (t : Int32) : Prop := s32 A.1 12 = t ∧ A.2.2.1 = A.1 11 ∧ A.2.2.2.1 = A.1 4
def iH (A : SA) (t : Int) : Prop := (0 ≤ A.2.2.2.2.2.2.1.toInt ∧ A.2.2.2.2.2.2.1.toInt ≤ 60000 * t) ∧ (0 ≤ A.2.2.2.2.2.2.2.1.toInt ∧ A.2.2.2.2.2.2.2.1.toInt ≤ 60000 * t) ∧ (0 ≤ A.2.2.2.2.2.2.2.2.1.toInt ∧ A.2.2.2.2.2.2.2.2.1.toInt ≤ 20000000000 * t) ∧ (0 ≤ A.2.2.2.2.2.2.2.2.2.1.toInt ∧ A.2.2.2.2.2.2.2.2.2.1.toInt ≤ 30000 * t) ∧ (0 ≤ A.2.2.2.2.2.2.2.2.2.2.toInt ∧ A.2.2.2.2.2.2.2.2.2.2.toInt ≤ 30000000 * t)
def Iv (u : PlS) : Prop := iS (pS u) ∧ iW (pW u) ∧ iK (pK u) ∧ (0 ≤ (pT u).toInt ∧ (pT u).toInt ≤ 100000) ∧ iB (pB u) (pT u).toInt ∧ iP (pP u) (pA u) (pT u).toInt ∧ iF (pP u) (pA u) (pT u).toInt ∧ iA (pA u) (pT u) ∧ iH (pA u) (pT u).toInt
def iC (C : SC) : Prop := (-300 ≤ C.1.toInt ∧ C.1.toInt ≤ 400) ∧ (0 ≤ C.2.2.1.toInt ∧ C.2.2.1.toInt ≤ 1000) ∧ (0 ≤ C.2.2.2.1.toInt ∧ C.2.2.2.1.toInt ≤ 60000)
/-! sums -/
theorem sI_upd (f : Nat → Int32) (k : Nat) (v : Int32) : ∀ n, sI (upd f k v) n = if k < n then sI f n - (f k).toInt + v.toInt else sI f n := by
  intro n
  induction n with
  | zero => rfl
  | succ n ih =>
    unfold sI
    rw [ih]
    by_cases h : k < n
    · rw [if_pos h, if_pos (by omega)]
      have : upd f k v n = f n := if_neg (by omega)
      rw [this]
      omega
    · rw [if_neg h]
      by_cases h2 : k = n
      · subst h2
        rw [if_pos (by omega)]
        have : upd f k v k = v := if_pos rfl
        rw [this]
        omega
      · rw [if_neg (by omega)]
        have : upd f k v n = f n := if_neg (by omega)
        rw [this]
theorem sI_bd {f : Nat → Int32} {m : Nat} (h : ∀ j, j < m → 0 ≤ (f j).toInt ∧ (f j).toInt ≤ 1) : ∀ n, n ≤ m → 0 ≤ sI f n ∧ sI f n ≤ n := by
  intro n
  induction n with
  | zero => intro _; exact ⟨Int.le_refl 0, Int.le_refl 0⟩
  | succ n ih =>
    intro hn
    have h1 := ih (by omega)
    have h2 := h n (by omega)
    unfold sI
    omega
theorem s32_upd (f : Nat → Int32) (k : Nat) : ∀ n, s32 (upd f k (f k + (1 : Int32))) n = if k < n then s32 f n + (1 : Int32) else s32 f n := by
  intro n
  induction n with
  | zero => rfl
  | succ n ih =>
    unfold s32
    rw [ih]
    by_cases h : k < n
    · rw [if_pos h, if_pos (by omega)]
      have : upd f k (f k + (1 : Int32)) n = f n := if_neg (by omega)
      rw [this]
      grind
    · rw [if_neg h]
      by_cases h2 : k = n
      · subst h2
        rw [if_pos (by omega)]
        have : upd f k (f k + (1 : Int32)) k = f k + (1 : Int32) := if_pos rfl
        rw [this]
        grind
      · rw [if_neg (by omega)]
        have : upd f k (f k + (1 : Int32)) n = f n := if_neg (by omega)
        rw [this]
/-! settings -/
theorem vl_i {S : SS} {j : Nat} (hj : j < 17) : F7_valueOf S (nI j) = S j := el_in hj (by decide)
theorem iS_b {S : SS} (h : iS S) : (500 ≤ (S 7).toInt ∧ (S 7).toInt ≤ 20000) ∧ (0 ≤ (S 8).toInt ∧ (S 8).toInt ≤ 200) ∧ (0 ≤ (S 12).toInt ∧ (S 12).toInt ≤ 20000) ∧ (0 ≤ (S 13).toInt ∧ (S 13).toInt ≤ 50) ∧ (0 ≤ (S 14).toInt ∧ (S 14).toInt ≤ 100) ∧ (100 ≤ (S 15).toInt ∧ (S 15).toInt ≤ 300) ∧ (1 ≤ (S 16).toInt ∧ (S 16).toInt ≤ 1000) :=
  ⟨h 7 (by omega), h 8 (by omega), h 12 (by omega), h 13 (by omega), h 14 (by omega), h 15 (by omega), h 16 (by omega)⟩
/-! the decision -/
theorem de_on (x0 : SP) (x1 : SS) (p2 p3 : Bool) : F6_decideWhileOn x0 x1 p2 p3 = 1 ∨ F6_decideWhileOn x0 x1 p2 p3 = 2 ∨ F6_decideWhileOn x0 x1 p2 p3 = 3 ∨ F6_decideWhileOn x0 x1 p2 p3 = 4 ∨ F6_decideWhileOn x0 x1 p2 p3 = 5 := by
  unfold F6_decideWhileOn
  repeat' split
  all_goals decide
theorem de_off (x0 : SP) (x1 : SS) (p2 p3 : Bool) : F6_decideWhileNeeded x0 x1 p2 p3 = 7 ∨ F6_decideWhileNeeded x0 x1 p2 p3 = 8 ∨ F6_decideWhileNeeded x0 x1 p2 p3 = 9 ∨ F6_decideWhileNeeded x0 x1 p2 p3 = 10 ∨ F6_decideWhileNeeded x0 x1 p2 p3 = 11 := by
  unfold F6_decideWhileNeeded
  repeat' split
  all_goals decide
theorem de_2 {z : SP} {S : SS} {B : SB} {C : SC} (h : z.1 = 2) : F6_decide z S B C = 0 := if_pos h
theorem de_1 {z : SP} {S : SS} {B : SB} {C : SC} (h : z.1 = 1) : F6_decide z S B C = 1 ∨ F6_decide z S B C = 2 ∨ F6_decide z S B C = 3 ∨ F6_decide z S B C = 4 ∨ F6_decide z S B C = 5 := by
  unfold F6_decide
  rw [if_neg (by rw [h]; decide), if_pos h]
  exact de_on _ _ _ _
theorem de_0 {z : SP} {S : SS} {B : SB} {C : SC} (h : z.1 = 0) : F6_decide z S B C = 6 ∨ F6_decide z S B C = 7 ∨ F6_decide z S B C = 8 ∨ F6_decide z S B C = 9 ∨ F6_decide z S B C = 10 ∨ F6_decide z S B C = 11 := by
  unfold F6_decide
  rw [if_neg (by rw [h]; decide), if_neg (by rw [h]; decide)]
  repeat' split
  all_goals first | exact Or.inr (de_off _ _ _ _) | exact Or.inl rfl
theorem ob_r {z : SP} {r : Int32} (hz : z.1 = 2 ∧ r = 0 ∨ z.1 = 1 ∧ (r = 1 ∨ r = 2 ∨ r = 3 ∨ r = 4 ∨ r = 5) ∨ z.1 = 0 ∧ (r = 6 ∨ r = 7 ∨ r = 8 ∨ r = 9 ∨ r = 10 ∨ r = 11)) : (F6_obey z r).1 = mOf r ∧ 0 ≤ r.toInt ∧ r.toInt ≤ 11 := by
  rcases hz with ⟨h, rfl⟩ | ⟨h, rfl | rfl | rfl | rfl | rfl⟩ | ⟨h, rfl | rfl | rfl | rfl | rfl | rfl⟩
  · exact ⟨h, by decide, by decide⟩
  · exact ⟨rfl, by decide, by decide⟩
  · exact ⟨h, by decide, by decide⟩
  · exact ⟨rfl, by decide, by decide⟩
  · exact ⟨rfl, by decide, by decide⟩
  · exact ⟨h, by decide, by decide⟩
  · exact ⟨h, by decide, by decide⟩
  · exact ⟨h, by decide, by decide⟩
  · exact ⟨h, by decide, by decide⟩
  · exact ⟨h, by decide, by decide⟩
  · exact ⟨h, by decide, by decide⟩
  · exact ⟨rfl, by decide, by decide⟩
theorem ob_k (z : SP) (r : Int32) : (F6_obey z r).2.2.2.2 = z.2.2.2.2 := by
  unfold F6_obey
  repeat' split
  all_goals rfl
theorem ed_k (z : SP) (t : Int32) (hz : z.1 = 0 ∨ z.1 = 1 ∨ z.1 = 2) : ((F6_endDefrosting z t).1 = 0 ∨ (F6_endDefrosting z t).1 = 1 ∨ (F6_endDefrosting z t).1 = 2) ∧ ((F6_endDefrosting z t).2.2.2.2.1 = z.2.2.2.2.1 ∨ (F6_endDefrosting z t).2.2.2.2.1 = 0) ∧ (F6_endDefrosting z t).2.2.2.2.2 = z.2.2.2.2.2 := by
  unfold F6_endDefrosting
  repeat' split
  · exact ⟨hz, Or.inl rfl, rfl⟩
  · exact ⟨Or.inr (Or.inl rfl), Or.inr rfl, rfl⟩
  · exact ⟨hz, Or.inl rfl, rfl⟩
theorem cm_k (z : SP) : (F6_countMinute z).1 = z.1 ∧ (F6_countMinute z).2.2.2.2 = z.2.2.2.2 := by
  unfold F6_countMinute
  repeat' split
  all_goals exact ⟨rfl, rfl⟩
/-- the reason of a minute, and the mode behind it -/
theorem mr_ok {u : PlS} (hz : (pP u).1 = 0 ∨ (pP u).1 = 1 ∨ (pP u).1 = 2) : (m4 u).1 = mOf (mR u) ∧ 0 ≤ (mR u).toInt ∧ (mR u).toInt ≤ 11 := by
  have h := (ed_k (pP u) (F7_valueOf (pS u) (11 : Int32)) hz).1
  exact ob_r (z := m1 u) (r := mR u) (by
    rcases h with h | h | h
    · exact Or.inr (Or.inr ⟨h, de_0 h⟩)
    · exact Or.inr (Or.inl ⟨h, de_1 h⟩)
    · exact Or.inl ⟨h, de_2 h⟩)
