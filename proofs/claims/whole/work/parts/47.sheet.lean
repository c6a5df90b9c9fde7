/-! the text and the weather sheet -/
theorem rM_T {u : PlS} {o k : Nat} {h : Nat → PlS} {st st' : ST} {x x' : MoN} {f : Nat → Int64} {g : SS} (R : rM u o k h st x f g) (hx : x'.1 = x.1) (t : rT st' x' g) : rM u o k h st' x' f g := ⟨R.1, R.2.1, ⟨R.2.2.1.1, R.2.2.1.2.1, hx.trans R.2.2.1.2.2⟩, t⟩
section K
variable {u : PlS} {o k : Nat} {h : Nat → PlS} {st : ST} {x : MoN} {f : Nat → Int64} {g : SS}
theorem rM_G (R : rM u o k h st x f g) {st' : ST} {x' : MoN} {g' : SS} (hx : x'.1 = x.1) (t : rT st' x' g') : rM u o k h st' x' f g' := ⟨R.1, R.2.1, ⟨R.2.2.1.1, R.2.2.1.2.1, hx.trans R.2.2.1.2.2⟩, t⟩
theorem type_r (R : rM u o k h st x f g) (p1 : Int32) : (F10_type st p1).1 = (F11_type x g p1).1 ∧ rM u o k h (F10_type st p1).2 (F11_type x g p1).2.1 f (F11_type x g p1).2.2 := by
  obtain ⟨t1, t2, t3, t4⟩ := R.2.2.2
  unfold F10_type F11_type
  rw [k_code]
  by_cases c1 : F11_in p1.toInt64 32 126 = true
  · rw [if_pos c1, if_pos c1]
    have b1 := in_iff.mp c1
    rw [show (32 : Int64).toInt = 32 from by decide, show (126 : Int64).toInt = 126 from by decide] at b1
    unfold F9_append K9_append_1 K10_type_1
    by_cases c2 : x.2.1 = 100
    · have n1 : ¬ st.2.1 < 100 := by
        rw [t2, c2]
        decide
      rw [if_pos c2, if_neg n1, if_neg (show ¬ (false = true) by decide)]
      exact ⟨rfl, R⟩
    · have n1 : st.2.1 < 100 := by
        rw [t2, w_ltI, nI_toInt (by omega), show (100 : Int32).toInt = 100 from by decide]
        omega
      rw [if_neg c2, if_pos n1, if_pos rfl]
      have e : F10_replace 100 st.1 st.2.1 p1 = upd g x.2.1 p1 := by
        rw [t1, t2]
        exact rp_in (by omega) (by decide)
      rw [e]
      have e2 : st.2.1 + 1 = nI (x.2.1 + 1) := by rw [t2, nI_1]
      refine ⟨e2, rM_G R rfl ⟨rfl, e2, show x.2.1 + 1 ≤ 100 by omega, fun j hj => ?_⟩⟩
      have hj : j < x.2.1 + 1 := hj
      show 32 ≤ (upd g x.2.1 p1 j).toInt ∧ (upd g x.2.1 p1 j).toInt ≤ 126
      by_cases e : j = x.2.1
      · rw [e, pk_us]
        exact b1
      · rw [pk_un e]
        exact t4 j (by omega)
  · rw [if_neg c1, if_neg c1]
    exact ⟨rfl, R⟩
theorem clearText_r (R : rM u o k h st x f g) : (F10_clearText st).1 = (F11_clearText x).1 ∧ rM u o k h (F10_clearText st).2 (F11_clearText x).2 f g := by
  obtain ⟨t1, t2, t3, t4⟩ := R.2.2.2
  exact ⟨t2, rM_T R rfl ⟨t1, rfl, Nat.zero_le _, fun j hj => absurd hj (Nat.not_lt_zero j)⟩⟩
end K
/-- the sheet can be carried out from here on -/
def okB (g : SS) (n : Nat) : Nat → Nat → Prop
  | 0, a => n ≤ a
  | m + 1, a => n ≤ a ∨ ((pE g n a).1 = true ∧ (-300 ≤ (pE g n a).2.2.2.2.1.toInt ∧ (pE g n a).2.2.2.2.1.toInt ≤ 400) ∧ okB g n m (pE g n a).2.1)
theorem okB_s {g : SS} {n a : Nat} (h : ∃ m, okB g n m a) (ha : a < n) : (pE g n a).1 = true ∧ (-300 ≤ (pE g n a).2.2.2.2.1.toInt ∧ (pE g n a).2.2.2.2.1.toInt ≤ 400) ∧ ∃ m, okB g n m (pE g n a).2.1 := by
  obtain ⟨m, h⟩ := h
  cases m with
  | zero =>
    have h : n ≤ a := h
    omega
  | succ m =>
    rcases (show n ≤ a ∨ _ from h) with h | ⟨h1, h2, h3⟩
    · omega
    · exact ⟨h1, h2, m, h3⟩
theorem pLt_c (c : Int32) : pLt c = -1 ∨ 0 ≤ (pLt c).toInt := by
  unfold pLt
  split
  · exact Or.inr (by decide)
  · split
    · exact Or.inr (by decide)
    · split
      · exact Or.inr (by decide)
      · exact Or.inl rfl
theorem pTl_c (g : SS) (n a : Nat) (f t : Int32) : (pTl g n a f t).1 = true → ((pTl g n a f t).2.2.2.2.2 = -1 ∨ 0 ≤ (pTl g n a f t).2.2.2.2.2.toInt) := by
  unfold pTl
  intro h
  by_cases c1 : pk g n a = 58
  · rw [if_pos c1] at h ⊢
    by_cases c2 : (pZ g n (a + 1)).1 = true
    · rw [if_pos c2]
      exact pLt_c _
    · rw [if_neg c2] at h
      cases h
  · rw [if_neg c1] at h
    cases h
theorem pE_c (g : SS) (n a : Nat) : (pE g n a).1 = true → ((pE g n a).2.2.2.2.2 = -1 ∨ 0 ≤ (pE g n a).2.2.2.2.2.toInt) := by
  unfold pE
  intro h
  by_cases c1 : (pH g n a).1 = true
  · rw [if_pos c1] at h ⊢
    by_cases c2 : pk g n (pH g n a).2.1 = 45
    · rw [if_pos c2] at h ⊢
      by_cases c3 : (pH g n ((pH g n a).2.1 + 1)).1 = true
      · rw [if_pos c3] at h ⊢
        exact pTl_c _ _ _ _ _ h
      · rw [if_neg c3] at h
        cases h
    · rw [if_neg c2] at h ⊢
      exact pTl_c _ _ _ _ _ h
  · rw [if_neg c1] at h
    cases h
section L
variable {g : SS} {n : Nat}
theorem lw_d (hn : n ≤ 100) (s0 : ST) (x0 : MoN) (f : Nat → Int64) (a fu fu' cnt : Nat) (ok : Bool) (r : Int32 × Int32 × Int32 × Int32) (x : MoN) (h1 : a ≤ n) (ha : n ≤ a) (h5 : cnt ≤ a) (h6 : x.2.1 = n) (h7 : x.2.2.1 = a) :
    ∃ r' a' x', x'.1 = x.1 ∧ x'.2.1 = n ∧ a' ≤ n ∧ (L9_countEntries_9 s0 (fu + 1) cnt ok (cT g n a r)).2 = cT g n a' r' ∧
      (((L9_countEntries_9 s0 (fu + 1) cnt ok (cT g n a r)).1.toInt < 0 ∧ (L9_countEntries_9 s0 (fu + 1) cnt ok (cT g n a r)).1 = (L11_loadWeather_9 x0 f g (fu' + 1) cnt ok x).1 ∧ (L11_loadWeather_9 x0 f g (fu' + 1) cnt ok x).2 = (x', f)) ∨
       (ok = true ∧ ∃ cnt', cnt' ≤ 100 ∧ (L9_countEntries_9 s0 (fu + 1) cnt ok (cT g n a r)).1 = nI cnt' ∧ (∃ q, okB g n q a) ∧ ∃ rec9, L11_loadWeather_9 x0 f g (fu' + 1) cnt ok x = K11_loadWeather_1 x0 f g cnt' true x' rec9 (F11_records x' f))) := by
  have e : a = n := by omega
  subst e
  have eC : L9_countEntries_9 s0 (fu + 1) cnt ok (cT g a a r) = if ok = true then (nI cnt, cT g a a r) else (-2, cT g a a r) := by
    unfold L9_countEntries_9
    have n1 : (cT g a a r).2.1 ≤ (cT g a a r).2.2.1 := Int32.le_refl _
    rw [if_pos n1]
    exact ite_self _
  have eM : L11_loadWeather_9 x0 f g (fu' + 1) cnt ok x = if ok = true then K11_loadWeather_1 x0 f g cnt ok x (L11_loadWeather_9 x0 f g fu') (F11_records x f) else (-2, (x, f)) := by
    conv => lhs; unfold L11_loadWeather_9
    rw [if_pos (show x.2.1 ≤ x.2.2.1 by omega)]
  refine ⟨r, a, x, rfl, h6, Nat.le_refl _, ?_, ?_⟩
  · rw [eC]
    split <;> rfl
  · rw [eC, eM]
    cases ok with
    | true =>
      rw [if_pos rfl, if_pos rfl]
      exact Or.inr ⟨rfl, cnt, by omega, rfl, ⟨0, Nat.le_refl _⟩, _, rfl⟩
    | false =>
      rw [if_neg (by decide), if_neg (by decide)]
      exact Or.inl ⟨show (-2 : Int32).toInt < 0 by decide, rfl, rfl⟩
/-- the first reading -/
theorem lw_1 (hg : cOk g n) (hn : n ≤ 100) (s0 : ST) (x0 : MoN) (f : Nat → Int64) : ∀ (m a fu fu' cnt : Nat) (ok : Bool) (r : Int32 × Int32 × Int32 × Int32) (x : MoN), a ≤ n → n - a ≤ m → m < fu → m < fu' → cnt ≤ a → x.2.1 = n → x.2.2.1 = a →
    ∃ r' a' x', x'.1 = x.1 ∧ x'.2.1 = n ∧ a' ≤ n ∧ (L9_countEntries_9 s0 fu cnt ok (cT g n a r)).2 = cT g n a' r' ∧
      (((L9_countEntries_9 s0 fu cnt ok (cT g n a r)).1.toInt < 0 ∧ (L9_countEntries_9 s0 fu cnt ok (cT g n a r)).1 = (L11_loadWeather_9 x0 f g fu' cnt ok x).1 ∧ (L11_loadWeather_9 x0 f g fu' cnt ok x).2 = (x', f)) ∨
       (ok = true ∧ ∃ cnt', cnt' ≤ 100 ∧ (L9_countEntries_9 s0 fu cnt ok (cT g n a r)).1 = nI cnt' ∧ (∃ q, okB g n q a) ∧ ∃ rec9, L11_loadWeather_9 x0 f g fu' cnt ok x = K11_loadWeather_1 x0 f g cnt' true x' rec9 (F11_records x' f))) := by
  intro m
  induction m with
  | zero =>
    intro a fu fu' cnt ok r x h1 h2 h3 h4 h5 h6 h7
    obtain ⟨fu, rfl⟩ : ∃ q, fu = q + 1 := ⟨fu - 1, by omega⟩
    obtain ⟨fu', rfl⟩ : ∃ q, fu' = q + 1 := ⟨fu' - 1, by omega⟩
    exact lw_d hn s0 x0 f a fu fu' cnt ok r x h1 (by omega) h5 h6 h7
  | succ m ih =>
    intro a fu fu' cnt ok r x h1 h2 h3 h4 h5 h6 h7
    obtain ⟨fu, rfl⟩ : ∃ q, fu = q + 1 := ⟨fu - 1, by omega⟩
    obtain ⟨fu', rfl⟩ : ∃ q, fu' = q + 1 := ⟨fu' - 1, by omega⟩
    by_cases hA : n ≤ a
    · exact lw_d hn s0 x0 f a fu fu' cnt ok r x h1 hA h5 h6 h7
    · have eC : L9_countEntries_9 s0 (fu + 1) cnt ok (cT g n a r) = K9_countEntries_1 s0 cnt ok (cT g n a r) (L9_countEntries_9 s0 fu) (F9_readEntry (cT g n a r)) := by
        conv => lhs; unfold L9_countEntries_9
        have n1 : ¬ (cT g n a r).2.1 ≤ (cT g n a r).2.2.1 := by
          show ¬ nI n ≤ nI a
          rw [w_leI, nI_toInt (by omega), nI_toInt (by omega)]
          omega
        rw [if_neg (by omega), if_neg n1]
      have eM : L11_loadWeather_9 x0 f g (fu' + 1) cnt ok x = K11_loadWeather_5 x0 f g cnt ok x (L11_loadWeather_9 x0 f g fu') (F11_takesEntry x g) := by
        conv => lhs; unfold L11_loadWeather_9
        rw [if_neg (by omega)]
      rw [eC, eM]
      obtain ⟨p1, p2, p3⟩ := pE_ok g n a h1
      obtain ⟨e1, r1, e2, e3⟩ := ce_eq (f := r.1) (t := r.2.1) (d := r.2.2.1) (r := r.2.2.2) hn h1 hg
      have e1 : (F9_readEntry (cT g n a r)).1 = (pE g n a).1 := e1
      have e2 : (F9_readEntry (cT g n a r)).2 = cT g n (pE g n a).2.1 r1 := e2
      have te := te_eq x g
      rw [h6, h7] at te
      obtain ⟨t1, t2, t3, t4, t5⟩ := te
      generalize F9_readEntry (cT g n a r) = y at e1 e2 ⊢
      generalize F11_takesEntry x g = z at t1 t2 t3 t4 t5 ⊢
      obtain ⟨y1, y2⟩ := y
      have e1 : y1 = (pE g n a).1 := e1
      have e2 : y2 = cT g n (pE g n a).2.1 r1 := e2
      subst e1
      subst e2
      unfold K9_countEntries_1 K11_loadWeather_5
      by_cases q1 : (pE g n a).1 = true
      · obtain ⟨p4, p5, p6, p7⟩ := p3 q1
        have e3 := e3 q1
        have t5 := t5 q1
        subst e3
        rw [if_pos (show (pE g n a).1 = true from q1), if_pos (t1.trans q1)]
        unfold K11_loadWeather_6
        have eB : (if ok = true then (if (F8_isOutdoor (pE g n a).2.2.2.2.1) = true then (if (pE g n a).2.2.2.1 < (pE g n a).2.2.1 then (L9_countEntries_9 s0 fu (cnt + 1) false (cT g n (pE g n a).2.1 (pE g n a).2.2)) else (L9_countEntries_9 s0 fu (cnt + 1) true (cT g n (pE g n a).2.1 (pE g n a).2.2))) else (L9_countEntries_9 s0 fu (cnt + 1) false (cT g n (pE g n a).2.1 (pE g n a).2.2))) else (L9_countEntries_9 s0 fu (cnt + 1) false (cT g n (pE g n a).2.1 (pE g n a).2.2))) = L9_countEntries_9 s0 fu (cnt + 1) (B11_loadWeather_35 x0 f g cnt ok x z) (cT g n (pE g n a).2.1 (pE g n a).2.2) := by
          unfold B11_loadWeather_35
          rw [t5, ← k_outdoor]
          by_cases b1 : ok = true
          · rw [if_pos b1, if_pos b1]
            by_cases b2 : F8_isOutdoor (pE g n a).2.2.2.2.1 = true
            · rw [if_pos b2, if_pos b2]
              by_cases b3 : (pE g n a).2.2.2.1 < (pE g n a).2.2.1
              · rw [if_pos b3, if_pos b3]
              · rw [if_neg b3, if_neg b3]
            · rw [if_neg b2, if_neg b2]
          · rw [if_neg b1, if_neg b1]
        have eB' := eB
        show ∃ r' a' x', x'.1 = x.1 ∧ x'.2.1 = n ∧ a' ≤ n ∧ (if ok = true then (if (F8_isOutdoor (pE g n a).2.2.2.2.1) = true then (if (pE g n a).2.2.2.1 < (pE g n a).2.2.1 then (L9_countEntries_9 s0 fu (cnt + 1) false (cT g n (pE g n a).2.1 (pE g n a).2.2)) else (L9_countEntries_9 s0 fu (cnt + 1) true (cT g n (pE g n a).2.1 (pE g n a).2.2))) else (L9_countEntries_9 s0 fu (cnt + 1) false (cT g n (pE g n a).2.1 (pE g n a).2.2))) else (L9_countEntries_9 s0 fu (cnt + 1) false (cT g n (pE g n a).2.1 (pE g n a).2.2))).2 = cT g n a' r' ∧ (((if ok = true then (if (F8_isOutdoor (pE g n a).2.2.2.2.1) = true then (if (pE g n a).2.2.2.1 < (pE g n a).2.2.1 then (L9_countEntries_9 s0 fu (cnt + 1) false (cT g n (pE g n a).2.1 (pE g n a).2.2)) else (L9_countEntries_9 s0 fu (cnt + 1) true (cT g n (pE g n a).2.1 (pE g n a).2.2))) else (L9_countEntries_9 s0 fu (cnt + 1) false (cT g n (pE g n a).2.1 (pE g n a).2.2))) else (L9_countEntries_9 s0 fu (cnt + 1) false (cT g n (pE g n a).2.1 (pE g n a).2.2))).1.toInt < 0 ∧ (if ok = true then (if (F8_isOutdoor (pE g n a).2.2.2.2.1) = true then (if (pE g n a).2.2.2.1 < (pE g n a).2.2.1 then (L9_countEntries_9 s0 fu (cnt + 1) false (cT g n (pE g n a).2.1 (pE g n a).2.2)) else (L9_countEntries_9 s0 fu (cnt + 1) true (cT g n (pE g n a).2.1 (pE g n a).2.2))) else (L9_countEntries_9 s0 fu (cnt + 1) false (cT g n (pE g n a).2.1 (pE g n a).2.2))) else (L9_countEntries_9 s0 fu (cnt + 1) false (cT g n (pE g n a).2.1 (pE g n a).2.2))).1 = (L11_loadWeather_9 x0 f g fu' (cnt + 1) (B11_loadWeather_35 x0 f g cnt ok x z) z.2).1 ∧ (L11_loadWeather_9 x0 f g fu' (cnt + 1) (B11_loadWeather_35 x0 f g cnt ok x z) z.2).2 = (x', f)) ∨ (ok = true ∧ ∃ cnt', cnt' ≤ 100 ∧ (if ok = true then (if (F8_isOutdoor (pE g n a).2.2.2.2.1) = true then (if (pE g n a).2.2.2.1 < (pE g n a).2.2.1 then (L9_countEntries_9 s0 fu (cnt + 1) false (cT g n (pE g n a).2.1 (pE g n a).2.2)) else (L9_countEntries_9 s0 fu (cnt + 1) true (cT g n (pE g n a).2.1 (pE g n a).2.2))) else (L9_countEntries_9 s0 fu (cnt + 1) false (cT g n (pE g n a).2.1 (pE g n a).2.2))) else (L9_countEntries_9 s0 fu (cnt + 1) false (cT g n (pE g n a).2.1 (pE g n a).2.2))).1 = nI cnt' ∧ (∃ q, okB g n q a) ∧ ∃ rec9, L11_loadWeather_9 x0 f g fu' (cnt + 1) (B11_loadWeather_35 x0 f g cnt ok x z) z.2 = K11_loadWeather_1 x0 f g cnt' true x' rec9 (F11_records x' f)))
        rw [eB]
        have hb : B11_loadWeather_35 x0 f g cnt ok x z = true → ok = true ∧ (-300 ≤ (pE g n a).2.2.2.2.1.toInt ∧ (pE g n a).2.2.2.2.1.toInt ≤ 400) := by
          unfold B11_loadWeather_35
          rw [t5]
          intro hh
          by_cases b1 : ok = true
          · rw [if_pos b1] at hh
            by_cases b2 : F11_in ((pE g n a).2.2.2.2.1.toInt64) (-300) 400 = true
            · have b3 := in_iff.mp b2
              rw [show (-300 : Int64).toInt = -300 from by decide, show (400 : Int64).toInt = 400 from by decide] at b3
              exact ⟨b1, b3⟩
            · rw [if_neg b2] at hh
              cases hh
          · rw [if_neg b1] at hh
            cases hh
        generalize B11_loadWeather_35 x0 f g cnt ok x z = ok2 at hb ⊢
        obtain ⟨r', a', x', g1, g2, g3, g4, g5⟩ := ih (pE g n a).2.1 fu fu' (cnt + 1) ok2 (pE g n a).2.2 z.2 p2 (by omega) (by omega) (by omega) (by omega) t3 t4
        refine ⟨r', a', x', g1.trans t2, g2, g3, g4, ?_⟩
        rcases g5 with g5 | ⟨g5, cnt', g6, g7, ⟨q, g8⟩, g9⟩
        · exact Or.inl g5
        · obtain ⟨b1, b2⟩ := hb g5
          exact Or.inr ⟨b1, cnt', g6, g7, ⟨q + 1, Or.inr ⟨q1, b2, g8⟩⟩, g9⟩
      · have f1 : (pE g n a).1 = false := by
          cases hq : (pE g n a).1 with
          | true => exact absurd hq q1
          | false => rfl
        rw [if_neg (show ¬ (pE g n a).1 = true from q1), if_neg (fun q => q1 (t1.symm.trans q)), t4]
        have hneg : ((-10 : Int32) - nI (pE g n a).2.1).toInt < 0 := by
          rw [ar_s32, nI_toInt (by omega), show (-10 : Int32).toInt = -10 from by decide]
          · omega
          · rw [nI_toInt (by omega), show (-10 : Int32).toInt = -10 from by decide]
            omega
          · rw [nI_toInt (by omega), show (-10 : Int32).toInt = -10 from by decide]
            omega
        exact ⟨r1, (pE g n a).2.1, z.2, t2, t3, p2, rfl, Or.inl ⟨hneg, rfl, rfl⟩⟩
end L
