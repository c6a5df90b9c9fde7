/-! questions: what they tell is what a run does -/
theorem cp_st {u v : PlS} {n : Nat} (hn : 1 ≤ n) (h0 : 0 ≤ (pT u).toInt) (h1 : (pT u).toInt + (n : Int) < 2147483647) : F5_advance (F5_copyFrom v u) n = stN n u := (ad_eq (u := wC u (pC v)) (n := n) h0 h1).trans (stN_wC hn u _)
theorem nI_lo {n : Nat} (h : 1 ≤ n) (h2 : n < 2 ^ 31) : ¬ nI n < (1 : Int32) := by
  rw [w_ltI, nI_toInt h2, show (1 : Int32).toInt = 1 from by decide]
  omega
theorem co_q {u v : PlS} {n : Nat} (hn : 1 ≤ n) (h7 : n ≤ 720) (h0 : 0 ≤ (pT u).toInt) (h1 : (pT u).toInt ≤ 100000) : (F10_costIn u v (nI n)).1 = F10_cost (stN n u) - F10_cost u := by
  unfold F10_costIn
  rw [if_neg (nI_lo hn (by omega)), if_pos (by rw [w_leI, nI_toInt (by omega), show (720 : Int32).toInt = 720 from by decide]; omega)]
  unfold K10_costIn_1 K10_costIn_2
  rw [nI_clamp (by omega), cp_st hn h0 (by omega)]
  rfl
/-- behind n minutes the pump is OFF as it is now, or not as it isn't now -/
def sm (u : PlS) (n : Nat) : Prop := bI (decide ((pP (stN n u)).1 = (0 : Int32))) = bI (decide ((pP u).1 = (0 : Int32)))
def nsR (u : PlS) (x : Int32) : Prop := (x = (-9999 : Int32) ∧ ∀ j, 1 ≤ j → j ≤ 720 → sm u j) ∨ ∃ n, 1 ≤ n ∧ n ≤ 720 ∧ x = nI n ∧ ¬ sm u n ∧ ∀ j, 1 ≤ j → j < n → sm u j
set_option maxRecDepth 100000 in
theorem ns_q {u u1 z2 : PlS} (h0 : 0 ≤ (pT u).toInt) (h1 : (pT u).toInt ≤ 100000) : ∀ (fu m : Nat) (v : PlS), m ≤ 720 → 720 - m < fu → (∃ c, v = wC (stN m u) c) → (∀ j, 1 ≤ j → j ≤ m → sm u j) → nsR u (L10_nextSwitch_32 u u1 z2 fu (m + 1) v).1 := by
  intro fu
  induction fu with
  | zero => intro m v _ h; exact absurd h (by omega)
  | succ fu ih =>
    intro m v hm hf hv hs
    unfold L10_nextSwitch_32
    by_cases c1 : 720 < m + 1
    · rw [if_pos c1]
      exact Or.inl ⟨rfl, fun j a b => hs j a (by omega)⟩
    · rw [if_neg c1]
      obtain ⟨c, rfl⟩ := hv
      have et : (pT (stN m u)).toInt = (pT u).toInt + (m : Int) := by
        rw [(stN_s m u).2.2.2, ar_a32 (by rw [nI_toInt (by omega)]; omega) (by rw [nI_toInt (by omega)]; omega), nI_toInt (by omega)]
      have e : F5_advance (wC (stN m u) c) 1 = stN (m + 1) u := (ad_eq (u := wC (stN m u) c) (n := 1) (by show 0 ≤ (pT (stN m u)).toInt; rw [et]; omega) (by show (pT (stN m u)).toInt + ((1 : Nat) : Int) < 2147483647; rw [et]; omega)).trans (stN_wC (n := 1) (by omega) (stN m u) c)
      unfold K10_nextSwitch_2
      rw [e]
      by_cases c2 : bI (decide ((pP (stN (m + 1) u)).1 = (0 : Int32))) = bI (decide ((pP u).1 = (0 : Int32)))
      · rw [if_pos c2]
        refine ih (m + 1) (stN (m + 1) u) (by omega) (by omega) ⟨pC (stN (m + 1) u), (wC_eta _).symm⟩ (fun j a b => ?_)
        by_cases ej : j = m + 1
        · rw [ej]
          exact c2
        · exact hs j a (by omega)
      · rw [if_neg c2]
        exact Or.inr ⟨m + 1, by omega, by omega, rfl, c2, fun j a b => hs j a (by omega)⟩
theorem ns_c (u u1 : PlS) : F10_nextSwitch u u1 = L10_nextSwitch_32 u u1 (F5_copyFrom u1 u) 721 1 (F5_copyFrom u1 u) := rfl
theorem ns_ok1 {u u1 : PlS} (h0 : 0 ≤ (pT u).toInt) (h1 : (pT u).toInt ≤ 100000) : nsR u (F10_nextSwitch u u1).1 := by
  have g := ns_q (u1 := u1) (z2 := F5_copyFrom u1 u) h0 h1 721 0 (F5_copyFrom u1 u) (by omega) (by omega) ⟨pC u1, rfl⟩ (fun j a b => absurd a (by omega))
  rw [ns_c]
  exact g
/-! the best BOOST -/
def sB (u : PlS) (i : Nat) : PlS := uS u (upd (pS u) 5 (nI i))
def lx (u : PlS) (n a b : Nat) : Prop := (F10_unmet (stN n (sB u a))).toInt < (F10_unmet (stN n (sB u b))).toInt ∨ (F10_unmet (stN n (sB u a))).toInt = (F10_unmet (stN n (sB u b))).toInt ∧ ((F10_cost (stN n (sB u a))).toInt < (F10_cost (stN n (sB u b))).toInt ∨ (F10_cost (stN n (sB u a))).toInt = (F10_cost (stN n (sB u b))).toInt ∧ a ≤ b)
theorem b88 (u u1 : PlS) (p1 : Int32) (i : Nat) (bb : Int32) (lu lc : Int64) (v z4 : PlS) (z5 : SS) (z6 : PlS) : B10_bestBoost_88 u u1 p1 i bb lu lc v z4 z5 z6 = (if i = 0 then (nI i, F10_unmet z6, F10_cost z6) else (if F10_unmet z6 < lu then (nI i, F10_unmet z6, F10_cost z6) else (if F10_unmet z6 = lu then (if lc ≤ F10_cost z6 then (bb, lu, lc) else (nI i, F10_unmet z6, F10_cost z6)) else (bb, lu, lc)))) := rfl
theorem bb_q {u u1 : PlS} {n : Nat} (hn : 1 ≤ n) (hn2 : n ≤ 360) (h0 : 0 ≤ (pT u).toInt) (h1 : (pT u).toInt ≤ 100000) : ∀ (fu i : Nat) (bb : Int32) (lu lc : Int64) (v : PlS), i ≤ 160 → 160 - i < 10 * fu → i % 10 = 0 → (i = 0 ∨ ∃ a, a < i ∧ a % 10 = 0 ∧ a ≤ 150 ∧ bb = nI a ∧ lu = F10_unmet (stN n (sB u a)) ∧ lc = F10_cost (stN n (sB u a)) ∧ ∀ j, j < i → j % 10 = 0 → lx u n a j) → ∃ a, a ≤ 150 ∧ a % 10 = 0 ∧ (L10_bestBoost_24 u u1 (nI n) fu i bb lu lc v).2.1 = nI a ∧ ∀ j, j ≤ 150 → j % 10 = 0 → lx u n a j := by
  intro fu
  induction fu with
  | zero => intro i _ _ _ _ _ h; exact absurd h (by omega)
  | succ fu ih =>
    intro i bb lu lc v hi hf h10 hq
    unfold L10_bestBoost_24
    by_cases c1 : 150 < i
    · rw [if_pos c1]
      rcases hq with h | ⟨a, -, a2, a3, a4, -, -, a7⟩
      · omega
      · exact ⟨a, a3, a2, a4, fun j b1 b2 => a7 j (by omega) b2⟩
    · rw [if_neg c1]
      have eS : F7_change (pS (F5_copyFrom v u)) 5 (nI i) = upd (pS u) 5 (nI i) := ch_in (S := pS u) (a := 5) (by omega) (nI i)
      have eA : F5_advance (upd (pS u) 5 (nI i), pW (F5_copyFrom v u), pK (F5_copyFrom v u), pB (F5_copyFrom v u), pP (F5_copyFrom v u), pA (F5_copyFrom v u), pC (F5_copyFrom v u), pT (F5_copyFrom v u)) (nI n).toNatClampNeg = stN n (sB u i) := by
        rw [nI_clamp (by omega)]
        exact (ad_eq (u := wC (sB u i) (pC v)) (n := n) h0 (by show (pT u).toInt + (n : Int) < 2147483647; omega)).trans (stN_wC hn (sB u i) (pC v))
      unfold K10_bestBoost_1 K10_bestBoost_2 K10_bestBoost_3 K10_bestBoost_4
      rw [eS, eA, b88]
      have hnew : (∀ j, j < i → j % 10 = 0 → lx u n i j) → ∀ j, j < i + 10 → j % 10 = 0 → lx u n i j := fun h j b1 b2 => by
        by_cases e : j = i
        · subst e
          exact Or.inr ⟨rfl, Or.inr ⟨rfl, Nat.le_refl _⟩⟩
        · exact h j (by omega) b2
      by_cases c2 : i = 0
      · rw [if_pos c2]
        exact ih (i + 10) (nI i) _ _ _ (by omega) (by omega) (by omega) (Or.inr ⟨i, by omega, h10, by omega, rfl, rfl, rfl, hnew (fun j b => absurd b (by omega))⟩)
      · rw [if_neg c2]
        obtain ⟨a, a1, a2, a3, a4, a5, a6, a7⟩ := hq.resolve_left c2
        clear hq
        by_cases c3 : F10_unmet (stN n (sB u i)) < lu
        · rw [if_pos c3]
          rw [a5, lt64] at c3
          refine ih (i + 10) (nI i) _ _ _ (by omega) (by omega) (by omega) (Or.inr ⟨i, by omega, h10, by omega, rfl, rfl, rfl, hnew (fun j b1 b2 => ?_)⟩)
          have := a7 j b1 b2
          unfold lx at this ⊢
          omega
        · rw [if_neg c3]
          rw [a5, lt64] at c3
          have hkeep : (¬ (F10_unmet (stN n (sB u i))).toInt = (F10_unmet (stN n (sB u a))).toInt ∨ (F10_cost (stN n (sB u a))).toInt ≤ (F10_cost (stN n (sB u i))).toInt) → ∀ j, j < i + 10 → j % 10 = 0 → lx u n a j := fun h j b1 b2 => by
            by_cases e : j = i
            · subst e
              unfold lx
              omega
            · exact a7 j (by omega) b2
          by_cases c4 : F10_unmet (stN n (sB u i)) = lu
          · rw [if_pos c4]
            have c4' : (F10_unmet (stN n (sB u i))).toInt = (F10_unmet (stN n (sB u a))).toInt := by rw [c4, a5]
            by_cases c5 : lc ≤ F10_cost (stN n (sB u i))
            · rw [if_pos c5]
              rw [a6, le64] at c5
              exact ih (i + 10) bb lu lc _ (by omega) (by omega) (by omega) (Or.inr ⟨a, by omega, a2, a3, a4, a5, a6, hkeep (Or.inr c5)⟩)
            · rw [if_neg c5]
              rw [a6, le64] at c5
              refine ih (i + 10) (nI i) _ _ _ (by omega) (by omega) (by omega) (Or.inr ⟨i, by omega, h10, by omega, rfl, rfl, rfl, hnew (fun j b1 b2 => ?_)⟩)
              have := a7 j b1 b2
              unfold lx at this ⊢
              omega
          · rw [if_neg c4]
            exact ih (i + 10) bb lu lc _ (by omega) (by omega) (by omega) (Or.inr ⟨a, by omega, a2, a3, a4, a5, a6, hkeep (Or.inl (fun e => c4 (by rw [a5]; exact Int64.toInt_inj.mp e)))⟩)
theorem bb_ok {u u1 : PlS} {n : Nat} (hn : 1 ≤ n) (hn2 : n ≤ 360) (h0 : 0 ≤ (pT u).toInt) (h1 : (pT u).toInt ≤ 100000) : ∃ a, a ≤ 150 ∧ a % 10 = 0 ∧ (F10_bestBoost u u1 (nI n)).1 = nI a ∧ ∀ j, j ≤ 150 → j % 10 = 0 → lx u n a j := by
  have g := bb_q (u := u) (u1 := u1) hn hn2 h0 h1 17 0 (0 : Int32) (0 : Int64) (0 : Int64) u1 (by omega) (by omega) (by omega) (Or.inl rfl)
  unfold F10_bestBoost
  rw [if_neg (nI_lo hn (by omega)), if_pos (by rw [w_leI, nI_toInt (by omega), show (360 : Int32).toInt = 360 from by decide]; omega)]
  unfold K10_bestBoost_5
  generalize L10_bestBoost_24 u u1 (nI n) 17 0 (0 : Int32) (0 : Int64) (0 : Int64) u1 = w1 at g ⊢
  exact g
/-! the demands of so many minutes -/
theorem dem_c {u v : PlS} (h1 : pS u = pS v) (h2 : pW u = pW v) (x : Int32) : F10_demand u x = F10_demand v x := by
  unfold F10_demand F5_demandIn
  rw [h1, h2]
def dS (u : PlS) (t : Nat) : Nat → Int64
  | 0 => 0
  | j + 1 => dS u t j + (F10_demand u (hr (nI (t + j)))).toInt64
theorem dS_c {u v : PlS} (h1 : pS u = pS v) (h2 : pW u = pW v) (t : Nat) : ∀ n, dS u t n = dS v t n := by
  intro n
  induction n with
  | zero => rfl
  | succ n ih =>
    unfold dS
    rw [ih, dem_c h1 h2]
theorem de_L {u : PlS} {t n : Nat} (h : t + n < 2 ^ 31) : ∀ (fu j : Nat) (acc : Int64), j ≤ n → n - j < fu → acc = dS u t j → (L12_demands_5 u (nI t) (nI n) fu (nI (t + j)) acc).2 = dS u t n := by
  intro fu
  induction fu with
  | zero => intro j _ _ h; exact absurd h (by omega)
  | succ fu ih =>
    intro j acc hj hf ha
    unfold L12_demands_5
    rw [nI_add]
    by_cases c : n ≤ j
    · rw [if_pos ((nI_leI (by omega) (by omega)).mpr (by omega))]
      obtain rfl : j = n := by omega
      exact ha
    · rw [if_neg (fun q => c (by have := (nI_leI (by omega) (by omega)).mp q; omega)), nI_1]
      refine ih (j + 1) _ (by omega) (by omega) ?_
      rw [ha]
      rfl
theorem de_e {u : PlS} {t n : Nat} (h : t + n < 2 ^ 31) : F12_demands u (nI t) (nI n) = dS u t n := by
  unfold F12_demands K12_demands_1
  exact de_L h _ 0 0 (by omega) (by rw [nI_add, nI_toInt h, nI_toInt (by omega)]; omega) rfl
theorem stN_d {u : PlS} (hI : Iv u) {t : Nat} (ht : pT u = nI t) : ∀ n : Nat, t + n ≤ 100000 → (F10_drawn (stN n u) + F10_unmet (stN n u)) - (F10_drawn u + F10_unmet u) = dS u t n := by
  have hT := hI.2.2.2.1
  intro n
  induction n with
  | zero =>
    intro _
    show (F10_drawn u + F10_unmet u) - (F10_drawn u + F10_unmet u) = (0 : Int64)
    grind
  | succ n ih =>
    intro h
    have hTt : (pT u).toInt = (t : Int) := by rw [ht, nI_toInt (by omega)]
    obtain ⟨g1, -, -, g4⟩ := stN_ok hI n (by rw [hTt]; omega)
    obtain ⟨-, -, k3, -⟩ := st_ok g1 (by rw [g4, hTt]; omega)
    have e := ih (by omega)
    have ep : pT (stN n u) = nI (t + n) := by rw [(stN_s n u).2.2.2, ht, nI_add]
    rw [ep, dem_c (stN_s n u).1 (stN_s n u).2.1] at k3
    show (F10_drawn (st1 (stN n u)) + F10_unmet (st1 (stN n u))) - (F10_drawn u + F10_unmet u) = dS u t n + (F10_demand u (hr (nI (t + n)))).toInt64
    rw [← e, ← k3]
    grind
