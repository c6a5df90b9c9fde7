/-! the heating curve agrees -/
theorem cv_n {x : Int32} (h : 1 ≤ x.toInt) : ∃ c : Nat, x = nI c ∧ (c : Int) = x.toInt ∧ c < 2 ^ 31 := by
  obtain ⟨c, hc, e⟩ := nI_of (x := x) (w_i0 (by omega))
  exact ⟨c, e, by rw [e, nI_toInt hc], hc⟩
theorem pf_l {x : SK} {p : Int32} {c : Nat} (hc : x.2.2 = nI c) (h6 : c ≤ 6) : ∀ fu i, i ≤ c → c - i < fu → (∀ k, k < i → (x.1 k).toInt < p.toInt) → ∃ P, L3_placeFor_2 x p fu i = P ∧ P ≤ c ∧ (∀ k, k < P → (x.1 k).toInt < p.toInt) ∧ (P < c → p.toInt ≤ (x.1 P).toInt) := by
  intro fu
  induction fu with
  | zero => intro i _ h; exact absurd h (by omega)
  | succ fu ih =>
    intro i h1 h2 h3
    unfold L3_placeFor_2
    by_cases c1 : x.2.2 ≤ nI i
    · rw [if_pos c1]
      rw [hc, w_leI, nI_toInt (by omega), nI_toInt (by omega)] at c1
      exact ⟨i, rfl, h1, h3, fun h => by omega⟩
    · rw [if_neg c1]
      rw [hc, w_leI, nI_toInt (by omega), nI_toInt (by omega)] at c1
      rw [if_neg (by omega)]
      by_cases c2 : p ≤ x.1 i
      · rw [if_pos c2]
        exact ⟨i, rfl, h1, h3, fun _ => w_leI.mp c2⟩
      · rw [if_neg c2]
        rw [w_leI] at c2
        refine ih (i + 1) (by omega) (by omega) (fun k hk => ?_)
        by_cases e : k = i
        · subst e
          omega
        · exact h3 k (by omega)
theorem pf_e {x : SK} {p : Int32} {c : Nat} (hc : x.2.2 = nI c) (h6 : c ≤ 6) : ∃ P, F3_placeFor x p = nI P ∧ P ≤ c ∧ (∀ k, k < P → (x.1 k).toInt < p.toInt) ∧ (P < c → p.toInt ≤ (x.1 P).toInt) := by
  obtain ⟨P, e, h⟩ := pf_l (x := x) (p := p) hc h6 7 0 (by omega) (by omega) (fun k hk => absurd hk (by omega))
  refine ⟨P, ?_, h⟩
  unfold F3_placeFor K3_placeFor_1
  rw [e]
/-- the nearest point that is not warmer, among the first n of the model, and the nearest that is -/
def lB (f : Nat → Int64) (p : Int64) (n : Nat) (b : Int32) : Prop := (b = -1 ∧ ∀ j, j < n → p.toInt < (f (69 + 2 * j)).toInt) ∨ (∃ k, k < n ∧ b = nI k ∧ (f (69 + 2 * k)).toInt ≤ p.toInt ∧ ∀ j, j < n → (f (69 + 2 * j)).toInt ≤ p.toInt → (f (69 + 2 * j)).toInt ≤ (f (69 + 2 * k)).toInt)
def hA (f : Nat → Int64) (p : Int64) (n : Nat) (a : Int32) : Prop := (a = -1 ∧ ∀ j, j < n → (f (69 + 2 * j)).toInt ≤ p.toInt) ∨ (∃ k, k < n ∧ a = nI k ∧ p.toInt < (f (69 + 2 * k)).toInt ∧ ∀ j, j < n → p.toInt < (f (69 + 2 * j)).toInt → (f (69 + 2 * k)).toInt ≤ (f (69 + 2 * j)).toInt)
theorem w_ltL {a b : Int64} : a < b ↔ a.toInt < b.toInt := Int64.lt_iff_toInt_lt
theorem w_leL {a b : Int64} : a ≤ b ↔ a.toInt ≤ b.toInt := Int64.le_iff_toInt_le
theorem w_nn {k : Nat} (hk : k < 2 ^ 31) : ¬ nI k < 0 := w_i0 (by rw [nI_toInt hk]; omega)
theorem cv_s {n : Nat} {R : Nat → Prop} (h : ∀ j, j < n → R j) (hn : R n) : ∀ j, j < n + 1 → R j := fun j hj => by
  by_cases e : j = n
  · subst e
    exact hn
  · exact h j (by omega)
theorem lB_s (x0 : MoN) {f : Nat → Int64} {p : Int64} {n : Nat} {b a : Int32} (hn : n < 6) (h : lB f p n b) : lB f p (n + 1) (B11_supplyAt_36 x0 f p n b a) := by
  unfold B11_supplyAt_36
  rcases h with ⟨rfl, h⟩ | ⟨k, hk, rfl, h1, h2⟩
  · by_cases c1 : p < f (69 + 2 * n)
    · rw [if_pos c1]
      exact Or.inl ⟨rfl, cv_s h (w_ltL.mp c1)⟩
    · rw [if_neg c1, if_pos (by decide)]
      rw [w_ltL] at c1
      exact Or.inr ⟨n, by omega, rfl, by omega, cv_s (fun j hj hv => by have := h j hj; omega) (fun _ => Int.le_refl _)⟩
  · by_cases c1 : p < f (69 + 2 * n)
    · rw [if_pos c1]
      rw [w_ltL] at c1
      exact Or.inr ⟨k, by omega, rfl, h1, cv_s h2 (fun hv => by omega)⟩
    · rw [if_neg c1, if_neg (w_nn (by omega)), w_p2, nI_clamp (by omega)]
      rw [w_ltL] at c1
      by_cases c2 : f (69 + 2 * n) ≤ f (69 + 2 * k)
      · rw [if_pos c2]
        rw [w_leL] at c2
        exact Or.inr ⟨k, by omega, rfl, h1, cv_s h2 (fun _ => c2)⟩
      · rw [if_neg c2]
        rw [w_leL] at c2
        exact Or.inr ⟨n, by omega, rfl, by omega, cv_s (fun j hj hv => by have := h2 j hj hv; omega) (fun _ => Int.le_refl _)⟩
theorem hA_s (x0 : MoN) {f : Nat → Int64} {p : Int64} {n : Nat} {b a z : Int32} (hn : n < 6) (h : hA f p n a) : hA f p (n + 1) (B11_supplyAt_71 x0 f p n b a z) := by
  unfold B11_supplyAt_71
  rcases h with ⟨rfl, h⟩ | ⟨k, hk, rfl, h1, h2⟩
  · by_cases c1 : f (69 + 2 * n) ≤ p
    · rw [if_pos c1]
      exact Or.inl ⟨rfl, cv_s h (w_leL.mp c1)⟩
    · rw [if_neg c1, if_pos (by decide)]
      rw [w_leL] at c1
      exact Or.inr ⟨n, by omega, rfl, by omega, cv_s (fun j hj hv => by have := h j hj; omega) (fun _ => Int.le_refl _)⟩
  · by_cases c1 : f (69 + 2 * n) ≤ p
    · rw [if_pos c1]
      rw [w_leL] at c1
      exact Or.inr ⟨k, by omega, rfl, h1, cv_s h2 (fun hv => by omega)⟩
    · rw [if_neg c1, if_neg (w_nn (by omega)), w_p2, nI_clamp (by omega)]
      rw [w_leL] at c1
      by_cases c2 : f (69 + 2 * k) ≤ f (69 + 2 * n)
      · rw [if_pos c2]
        rw [w_leL] at c2
        exact Or.inr ⟨k, by omega, rfl, h1, cv_s h2 (fun _ => c2)⟩
      · rw [if_neg c2]
        rw [w_leL] at c2
        exact Or.inr ⟨n, by omega, rfl, by omega, cv_s (fun j hj hv => by have := h2 j hj hv; omega) (fun _ => Int.le_refl _)⟩
theorem sp_l (x0 : MoN) {f : Nat → Int64} {p : Int64} {c : Nat} (hc : (f 68).toInt = (c : Int)) (h6 : c ≤ 6) : ∀ fu i b a, i ≤ c → c - i < fu → lB f p i b → hA f p i a → ∃ b' a', L11_supplyAt_8 x0 f p fu i b a = (c, b', a') ∧ lB f p c b' ∧ hA f p c a' := by
  intro fu
  induction fu with
  | zero => intro i b a _ h; exact absurd h (by omega)
  | succ fu ih =>
    intro i b a h1 h2 h3 h4
    unfold L11_supplyAt_8
    by_cases c1 : f 68 ≤ (nI i).toInt64
    · rw [if_pos c1]
      rw [w_leL, hc, w_il (by omega)] at c1
      have e : i = c := by omega
      subst e
      exact ⟨b, a, rfl, h3, h4⟩
    · rw [if_neg c1]
      rw [w_leL, hc, w_il (by omega)] at c1
      unfold K11_supplyAt_1 K11_supplyAt_2
      exact ih (i + 1) _ _ (by omega) (by omega) (lB_s x0 (by omega) h3) (hA_s x0 (by omega) h4)
section C
variable {K : SK} {f : Nat → Int64} {c : Nat}
/-- the Q coldest points are those that are not warmer: which two the model takes -/
theorem cv_b (h : rK K f) (hc : (c : Int) = K.2.2.toInt) {p : Int64} {Q : Nat} {b : Int32} (hQ : Q ≤ c) (q1 : ∀ i, i < Q → (K.1 i).toInt ≤ p.toInt) (q2 : ∀ i, Q ≤ i → i < c → p.toInt < (K.1 i).toInt) (hb : lB f p c b) : (Q = 0 ∧ b = -1) ∨ (0 < Q ∧ ∃ k, k < c ∧ b = nI k ∧ f (69 + 2 * k) = (K.1 (Q - 1)).toInt64 ∧ f (69 + 2 * k + 1) = (K.2.1 (Q - 1)).toInt64) := by
  obtain ⟨-, -, -, k4, k5, k6, -⟩ := h
  rcases hb with ⟨rfl, h⟩ | ⟨k, hk, rfl, h1, h2⟩
  · refine Or.inl ⟨?_, rfl⟩
    by_cases e : Q = 0
    · exact e
    · obtain ⟨j, hj, e1, -⟩ := k5 0 (by omega)
      have a1 := h j (by omega)
      have a2 := q1 0 (by omega)
      rw [e1, Int32.toInt_toInt64] at a1
      omega
  · obtain ⟨i, hi, e1, e2⟩ := k6 k (by omega)
    rw [e1, Int32.toInt_toInt64] at h1 h2
    have hiQ : i < Q := by
      by_cases g : i < Q
      · exact g
      · have := q2 i (by omega) (by omega)
        omega
    have ei : i = Q - 1 := by
      by_cases g : i = Q - 1
      · exact g
      · obtain ⟨j, hj, e3, -⟩ := k5 (Q - 1) (by omega)
        have a1 := h2 j (by omega)
        rw [e3, Int32.toInt_toInt64] at a1
        have a2 := q1 (Q - 1) (by omega)
        have a3 := k4 i (Q - 1) (by omega) (by omega)
        omega
    subst ei
    exact Or.inr ⟨by omega, k, hk, rfl, e1, e2⟩
theorem cv_a (h : rK K f) (hc : (c : Int) = K.2.2.toInt) {p : Int64} {Q : Nat} {a : Int32} (hQ : Q ≤ c) (q1 : ∀ i, i < Q → (K.1 i).toInt ≤ p.toInt) (q2 : ∀ i, Q ≤ i → i < c → p.toInt < (K.1 i).toInt) (ha : hA f p c a) : (Q = c ∧ a = -1) ∨ (Q < c ∧ ∃ k, k < c ∧ a = nI k ∧ f (69 + 2 * k) = (K.1 Q).toInt64 ∧ f (69 + 2 * k + 1) = (K.2.1 Q).toInt64) := by
  obtain ⟨-, -, -, k4, k5, k6, -⟩ := h
  rcases ha with ⟨rfl, h⟩ | ⟨k, hk, rfl, h1, h2⟩
  · refine Or.inl ⟨?_, rfl⟩
    by_cases e : Q = c
    · exact e
    · obtain ⟨j, hj, e1, -⟩ := k5 Q (by omega)
      have a1 := h j (by omega)
      have a2 := q2 Q (by omega) (by omega)
      rw [e1, Int32.toInt_toInt64] at a1
      omega
  · obtain ⟨i, hi, e1, e2⟩ := k6 k (by omega)
    rw [e1, Int32.toInt_toInt64] at h1 h2
    have hiQ : Q ≤ i := by
      by_cases g : Q ≤ i
      · exact g
      · have := q1 i (by omega)
        omega
    have ei : i = Q := by
      by_cases g : i = Q
      · exact g
      · obtain ⟨j, hj, e3, -⟩ := k5 Q (by omega)
        have a1 := h2 j (by omega)
        rw [e3, Int32.toInt_toInt64] at a1
        have a2 := q2 Q (by omega) (by omega)
        have a3 := k4 Q i (by omega) (by omega)
        omega
    subst ei
    exact Or.inr ⟨by omega, k, hk, rfl, e1, e2⟩
theorem div_0 {q : Int64} (hq : 0 < q.toInt) : F11_div 0 q = 0 := Int64.toInt_inj.mp (by
  rw [ar_div hq, show (0 : Int64).toInt = 0 from by decide, Int.zero_ediv])
/-- between two points: the class counts in ints, the model in longs -/
theorem cv_v {o1 o2 s1 s2 p : Int32} (h1 : -300 ≤ o1.toInt) (h2 : o2.toInt ≤ 400) (h3 : o1.toInt ≤ p.toInt) (h4 : p.toInt < o2.toInt) (h5 : 150 ≤ s1.toInt ∧ s1.toInt ≤ 600) (h6 : 150 ≤ s2.toInt ∧ s2.toInt ≤ 600) :
    s1.toInt64 + F11_div ((s2.toInt64 - s1.toInt64) * (p.toInt64 - o1.toInt64)) (o2.toInt64 - o1.toInt64) = (s1 + (F10_div (((s2 - s1) * (p - o1)).toInt64) ((o2 - o1).toInt64)).toInt32).toInt64 ∧ -1000000 ≤ (s1 + (F10_div (((s2 - s1) * (p - o1)).toInt64) ((o2 - o1).toInt64)).toInt32).toInt ∧ (s1 + (F10_div (((s2 - s1) * (p - o1)).toInt64) ((o2 - o1).toInt64)).toInt32).toInt ≤ 1000000 := by
  have e1 : (s2 - s1).toInt = s2.toInt - s1.toInt := ar_s32 (by omega) (by omega)
  have e2 : (p - o1).toInt = p.toInt - o1.toInt := ar_s32 (by omega) (by omega)
  have e3 : (o2 - o1).toInt = o2.toInt - o1.toInt := ar_s32 (by omega) (by omega)
  have b1 := ar_mul (a := s2.toInt - s1.toInt) (b := p.toInt - o1.toInt) (A := 450) (B := 700) (by omega) (by omega) (by omega) (by omega)
  have e4 : ((s2 - s1) * (p - o1)).toInt = (s2.toInt - s1.toInt) * (p.toInt - o1.toInt) := by
    rw [ar_m32, e1, e2]
    · rw [e1, e2]; omega
    · rw [e1, e2]; omega
  have f1 : (s2.toInt64 - s1.toInt64).toInt = s2.toInt - s1.toInt := by
    rw [ar_s64, Int32.toInt_toInt64, Int32.toInt_toInt64] <;> rw [Int32.toInt_toInt64, Int32.toInt_toInt64] <;> omega
  have f2 : (p.toInt64 - o1.toInt64).toInt = p.toInt - o1.toInt := by
    rw [ar_s64, Int32.toInt_toInt64, Int32.toInt_toInt64] <;> rw [Int32.toInt_toInt64, Int32.toInt_toInt64] <;> omega
  have f3 : (o2.toInt64 - o1.toInt64).toInt = o2.toInt - o1.toInt := by
    rw [ar_s64, Int32.toInt_toInt64, Int32.toInt_toInt64] <;> rw [Int32.toInt_toInt64, Int32.toInt_toInt64] <;> omega
  have f4 : ((s2.toInt64 - s1.toInt64) * (p.toInt64 - o1.toInt64)).toInt = (s2.toInt - s1.toInt) * (p.toInt - o1.toInt) := by
    rw [ar_m64, f1, f2]
    · rw [f1, f2]; omega
    · rw [f1, f2]; omega
  have d1 : (F10_div (((s2 - s1) * (p - o1)).toInt64) ((o2 - o1).toInt64)).toInt = (s2.toInt - s1.toInt) * (p.toInt - o1.toInt) / (o2.toInt - o1.toInt) := by
    rw [div_e (by rw [Int32.toInt_toInt64, e3]; omega), ar_div (by rw [Int32.toInt_toInt64, e3]; omega), Int32.toInt_toInt64, Int32.toInt_toInt64, e3, e4]
  have d2 : (F11_div ((s2.toInt64 - s1.toInt64) * (p.toInt64 - o1.toInt64)) (o2.toInt64 - o1.toInt64)).toInt = (s2.toInt - s1.toInt) * (p.toInt - o1.toInt) / (o2.toInt - o1.toInt) := by
    rw [ar_div (by rw [f3]; omega), f3, f4]
  have b2 := ar_dv (b := o2.toInt - o1.toInt) b1.1 b1.2
  generalize (s2.toInt - s1.toInt) * (p.toInt - o1.toInt) / (o2.toInt - o1.toInt) = t at d1 d2 b2
  have d3 : (F10_div (((s2 - s1) * (p - o1)).toInt64) ((o2 - o1).toInt64)).toInt32.toInt = t := by
    rw [ar_n (by rw [d1]; omega) (by rw [d1]; omega), d1]
  have e5 : (s1 + (F10_div (((s2 - s1) * (p - o1)).toInt64) ((o2 - o1).toInt64)).toInt32).toInt = s1.toInt + t := by
    rw [ar_a32 (by rw [d3]; omega) (by rw [d3]; omega), d3]
  refine ⟨ar_e ?_, by rw [e5]; omega, by rw [e5]; omega⟩
  rw [e5, ar_a64 (by rw [d2, Int32.toInt_toInt64]; omega) (by rw [d2, Int32.toInt_toInt64]; omega), d2, Int32.toInt_toInt64]
theorem sup_e (x0 : MoN) (h : rK K f) (hb : bK K) {p : Int32} (hp : -300 ≤ p.toInt ∧ p.toInt ≤ 400) : F11_supplyAt x0 f p.toInt64 = (F3_supplyAt K p).toInt64 ∧ -1000000 ≤ (F3_supplyAt K p).toInt ∧ (F3_supplyAt K p).toInt ≤ 1000000 := by
  obtain ⟨c, ec, hc, -⟩ := cv_n h.2.1
  have h6 : c ≤ 6 := by have := h.2.2.1; omega
  have h1 : 1 ≤ c := by have := h.2.1; omega
  obtain ⟨P, eP, hP1, hP2, hP3⟩ := pf_e (p := p) ec h6
  have h68 : (f 68).toInt = (c : Int) := by rw [h.1, Int32.toInt_toInt64, hc]
  obtain ⟨b, a, eL, gb, ga⟩ := sp_l x0 (f := f) (p := p.toInt64) h68 h6 7 0 (-1) (-1) (by omega) (by omega) (Or.inl ⟨rfl, fun j hj => absurd hj (by omega)⟩) (Or.inl ⟨rfl, fun j hj => absurd hj (by omega)⟩)
  have k4 := h.2.2.2.1
  -- how many are not warmer
  have hQ : ∃ Q, Q ≤ c ∧ (∀ i, i < Q → (K.1 i).toInt ≤ p.toInt) ∧ (∀ i, Q ≤ i → i < c → p.toInt < (K.1 i).toInt) ∧ ((P = c ∧ Q = c) ∨ (P < c ∧ Q = P + 1 ∧ K.1 P = p) ∨ (P < c ∧ Q = P ∧ p.toInt < (K.1 P).toInt)) := by
    by_cases c1 : P = c
    · exact ⟨c, Nat.le_refl _, fun i hi => Int.le_of_lt (hP2 i (by omega)), fun i h1 h2 => by omega, Or.inl ⟨c1, rfl⟩⟩
    · have c2 := hP3 (by omega)
      by_cases c3 : K.1 P = p
      · refine ⟨P + 1, by omega, fun i hi => ?_, fun i h1 h2 => ?_, Or.inr (Or.inl ⟨by omega, rfl, c3⟩)⟩
        · by_cases c4 : i = P
          · rw [c4, c3]
            exact Int.le_refl _
          · exact Int.le_of_lt (hP2 i (by omega))
        · have := k4 P i (by omega) (by omega)
          rw [c3] at this
          exact this
      · have c4 : (K.1 P).toInt ≠ p.toInt := fun e => c3 (Int32.toInt_inj.mp e)
        refine ⟨P, by omega, fun i hi => Int.le_of_lt (hP2 i hi), fun i h1 h2 => ?_, Or.inr (Or.inr ⟨by omega, rfl, by omega⟩)⟩
        by_cases c5 : i = P
        · rw [c5]
          omega
        · have := k4 P i (by omega) (by omega)
          omega
  obtain ⟨Q, hQ0, hQ1, hQ2, hQ3⟩ := hQ
  have rb := cv_b h hc (p := p.toInt64) hQ0 (fun i hi => by rw [Int32.toInt_toInt64]; exact hQ1 i hi) (fun i h1 h2 => by rw [Int32.toInt_toInt64]; exact hQ2 i h1 h2) gb
  have ra := cv_a h hc (p := p.toInt64) hQ0 (fun i hi => by rw [Int32.toInt_toInt64]; exact hQ1 i hi) (fun i h1 h2 => by rw [Int32.toInt_toInt64]; exact hQ2 i h1 h2) ga
  -- the model's answer
  have hM : F11_supplyAt x0 f p.toInt64 = if Q = 0 then (K.2.1 0).toInt64 else if Q = c then (K.2.1 (c - 1)).toInt64 else (K.2.1 (Q - 1)).toInt64 + F11_div (((K.2.1 Q).toInt64 - (K.2.1 (Q - 1)).toInt64) * (p.toInt64 - (K.1 (Q - 1)).toInt64)) ((K.1 Q).toInt64 - (K.1 (Q - 1)).toInt64) := by
    unfold F11_supplyAt
    rw [eL]
    unfold K11_supplyAt_3
    rcases rb with ⟨e, rfl⟩ | ⟨e, k, hk, rfl, e1, e2⟩
    · rcases ra with ⟨e', -⟩ | ⟨e', k2, hk2, rfl, g1, g2⟩
      · omega
      · subst e
        rw [if_pos (show (-1 : Int32) < 0 by decide), if_pos rfl, w_p3, nI_clamp (by omega), g2]
    · rw [if_neg (show ¬ nI k < 0 from w_nn (by omega)), if_neg (show ¬ Q = 0 by omega)]
      rcases ra with ⟨e', rfl⟩ | ⟨e', k2, hk2, rfl, g1, g2⟩
      · rw [if_neg (show ¬ (0 : Int32) ≤ -1 by decide), if_pos e', w_p3, nI_clamp (by omega), e2, e']
      · rw [if_pos (show (0 : Int32) ≤ nI k2 from Int32.not_lt.mp (w_nn (by omega))), if_neg (show ¬ Q = c by omega), w_p3, w_p3, w_p2, w_p2, nI_clamp (by omega), nI_clamp (by omega), nI_clamp (by omega), nI_clamp (by omega), e1, e2, g1, g2]
  have hbs : ∀ i, i < c → -1000000 ≤ (K.2.1 i).toInt ∧ (K.2.1 i).toInt ≤ 1000000 := fun i hi => by
    have := (hb i (by omega)).2
    omega
  rw [hM]
  unfold F3_supplyAt
  rw [eP, ec]
  rcases hQ3 with ⟨e1, e2⟩ | ⟨e1, e2, e3⟩ | ⟨e1, e2, e3⟩
  · subst e1
    rw [if_neg (by omega), if_pos e2, if_pos rfl]
    have e4 : nI P - 1 = nI (P - 1) := pk_sub (b := 1) (by omega)
    rw [e4, el_in (by omega) (by decide)]
    exact ⟨rfl, hbs (P - 1) (by omega)⟩
  · have n1 : ¬ nI P = nI c := fun e => by
      have := congrArg Int32.toInt e
      rw [nI_toInt (by omega), nI_toInt (by omega)] at this
      omega
    rw [if_neg n1, el_in (by omega) (by decide), el_in (by omega) (by decide)]
    have eC : (if nI P = (0 : Int32) then K.2.1 P else if K.1 P = p then K.2.1 P else F10_elementOr 6 K.2.1 (nI P - 1) (-9999) + (F10_div (((K.2.1 P - F10_elementOr 6 K.2.1 (nI P - 1) (-9999)) * (p - F10_elementOr 6 K.1 (nI P - 1) (-9999))).toInt64) ((K.1 P - F10_elementOr 6 K.1 (nI P - 1) (-9999)).toInt64)).toInt32) = K.2.1 P := by
      rw [if_pos e3]
      exact ite_self _
    rw [eC]
    refine ⟨?_, hbs P (by omega)⟩
    subst e2
    rw [if_neg (by omega), Nat.add_sub_cancel]
    by_cases c1 : P + 1 = c
    · rw [if_pos c1, ← c1, Nat.add_sub_cancel]
    · rw [if_neg c1, e3, Int64.sub_self, Int64.mul_zero, div_0, Int64.add_zero]
      have := k4 P (P + 1) (by omega) (by omega)
      rw [e3] at this
      rw [ar_s64, Int32.toInt_toInt64, Int32.toInt_toInt64]
      · omega
      · rw [Int32.toInt_toInt64, Int32.toInt_toInt64]
        have := w_lo (K.1 (P + 1))
        omega
      · rw [Int32.toInt_toInt64, Int32.toInt_toInt64]
        have := w_hi (K.1 (P + 1))
        omega
  · have n1 : ¬ nI P = nI c := fun e => by
      have := congrArg Int32.toInt e
      rw [nI_toInt (by omega), nI_toInt (by omega)] at this
      omega
    have n2 : ¬ K.1 P = p := fun e => by rw [e] at e3; omega
    rw [if_neg n1, el_in (by omega) (by decide), el_in (by omega) (by decide)]
    subst e2
    by_cases c1 : Q = 0
    · subst c1
      rw [if_pos rfl, if_pos (show nI 0 = (0 : Int32) from rfl)]
      exact ⟨rfl, hbs 0 (by omega)⟩
    · have n3 : ¬ nI Q = (0 : Int32) := fun e => by
        have := congrArg Int32.toInt e
        rw [nI_toInt (by omega), show (0 : Int32).toInt = 0 from by decide] at this
        omega
      rw [if_neg c1, if_neg (by omega), if_neg n3, if_neg n2]
      have e4 : nI Q - 1 = nI (Q - 1) := pk_sub (b := 1) (by omega)
      rw [e4, el_in (by omega) (by decide), el_in (by omega) (by decide)]
      have b1 := hb (Q - 1) (by omega)
      have b2 := hb Q (by omega)
      exact cv_v (by omega) (by omega) (hQ1 (Q - 1) (by omega)) (by omega) (by omega) (by omega)
end C
section G
variable {M : Int} {u : PlS} {f : Nat → Int64}
theorem supply_e (x0 : MoN) (h : rl M u f) (p : Int32) : F10_supply u p = F11_supply x0 f p := by
  obtain ⟨⟨-, -, -, -, h5, -, -, -, h9, -⟩, -⟩ := h
  unfold F10_supply F11_supply
  rw [k_outdoor]
  by_cases hp : F11_in p.toInt64 (-300) 400 = true
  · have h1 := in_iff.mp hp
    rw [show (-300 : Int64).toInt = -300 from by decide, show (400 : Int64).toInt = 400 from by decide] at h1
    rw [if_pos hp, if_pos hp, (sup_e x0 h5 h9 h1).1, Int32.toInt32_toInt64]
  · rw [if_neg hp, if_neg hp]
end G
