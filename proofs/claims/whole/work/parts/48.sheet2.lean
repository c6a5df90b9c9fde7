/-! the weather sheet is carried out -/
section L
variable {g : SS} {n : Nat} {S : SS} {K : SK} {c : Int32}
theorem lw_i (s0 : ST) (W0 : SW) (z3 : Bool × ST) (i0 : Nat) (s1 : ST) (v : SW) (x0 : MoN) (x1 : Nat → Int64) (m3 : Int32 × MoN × (Nat → Int64)) (z5 : Bool × MoN) (cnt : Nat) (ok : Bool) (xx y : MoN) (f : Nat → Int64) (pr : SS) {q : Int32 × Int32 × Int32 × Int32} {a : Nat} (hz : z3.2 = cT g n a q) (hz5 : z5.2.2.2.2.2 = q) (b1 : 0 ≤ q.2.1.toInt ∧ q.2.1.toInt ≤ 23) (b2 : -300 ≤ q.2.2.1.toInt ∧ q.2.2.1.toInt ≤ 400) (b3 : q.2.2.2 = -1 ∨ 0 ≤ q.2.2.2.toInt) (b4 : q.2.2.2.toInt ≤ 2) :
    ∀ (m h fu fu' : Nat) (oo tt : SS) (r : Nat → Int64), 24 - h ≤ m → m < fu → m < fu' → h ≤ 24 → rs S (oo, tt, pr) K c r →
      rs S ((L9_carryOut_36 s0 W0 z3 i0 s1 v fu (nI h) oo tt).2.1, (L9_carryOut_36 s0 W0 z3 i0 s1 v fu (nI h) oo tt).2.2, pr) K c (L11_loadWeather_117 x0 x1 g m3 z5 cnt ok xx y f fu' h r).2 ∧ ∀ j, 82 ≤ j → (L11_loadWeather_117 x0 x1 g m3 z5 cnt ok xx y f fu' h r).2 j = r j := by
  intro m
  induction m with
  | zero =>
    intro h fu fu' oo tt r h1 h2 h3 h4 hs
    obtain ⟨fu, rfl⟩ : ∃ q, fu = q + 1 := ⟨fu - 1, by omega⟩
    obtain ⟨fu', rfl⟩ : ∃ q, fu' = q + 1 := ⟨fu' - 1, by omega⟩
    unfold L9_carryOut_36 L11_loadWeather_117
    rw [hz, hz5]
    have n1 : (cT g n a q).2.2.2.2.1 < nI h := by
      show q.2.1 < nI h
      rw [w_ltI, nI_toInt (by omega)]
      omega
    have n2 : q.2.1.toNatClampNeg < h := by
      unfold Int32.toNatClampNeg
      omega
    rw [if_pos n1, if_pos n2]
    exact ⟨hs, fun _ _ => rfl⟩
  | succ m ih =>
    intro h fu fu' oo tt r h1 h2 h3 h4 hs
    obtain ⟨fu, rfl⟩ : ∃ q, fu = q + 1 := ⟨fu - 1, by omega⟩
    obtain ⟨fu', rfl⟩ : ∃ q, fu' = q + 1 := ⟨fu' - 1, by omega⟩
    unfold L9_carryOut_36 L11_loadWeather_117
    rw [hz, hz5]
    by_cases c1 : q.2.1.toNatClampNeg < h
    · have n1 : (cT g n a q).2.2.2.2.1 < nI h := by
        show q.2.1 < nI h
        rw [w_ltI, nI_toInt (by omega)]
        unfold Int32.toNatClampNeg at c1
        omega
      rw [if_pos n1, if_pos c1]
      exact ⟨hs, fun _ _ => rfl⟩
    · have n1 : ¬ (cT g n a q).2.2.2.2.1 < nI h := by
        show ¬ q.2.1 < nI h
        rw [w_ltI, nI_toInt (by omega)]
        unfold Int32.toNatClampNeg at c1
        omega
      have hh : h < 24 := by
        unfold Int32.toNatClampNeg at c1
        omega
      rw [if_neg n1, if_neg c1]
      unfold K9_carryOut_2 K9_carryOut_3
      rw [hz, nI_1]
      show rs S ((if q.2.2.2 = (-1 : Int32) then L9_carryOut_36 s0 W0 z3 i0 s1 v fu (nI (h + 1)) (F10_replace 24 oo (nI h) q.2.2.1) tt else L9_carryOut_36 s0 W0 z3 i0 s1 v fu (nI (h + 1)) (F10_replace 24 oo (nI h) q.2.2.1) (F10_replace 24 tt (nI h) q.2.2.2)).2.1, (if q.2.2.2 = (-1 : Int32) then L9_carryOut_36 s0 W0 z3 i0 s1 v fu (nI (h + 1)) (F10_replace 24 oo (nI h) q.2.2.1) tt else L9_carryOut_36 s0 W0 z3 i0 s1 v fu (nI (h + 1)) (F10_replace 24 oo (nI h) q.2.2.1) (F10_replace 24 tt (nI h) q.2.2.2)).2.2, pr) K c _ ∧ _
      rw [rp_in hh (by decide), rp_in hh (by decide)]
      have s17 := rs_17 hs (k := h) (v := q.2.2.1) hh b2
      rcases b3 with b3 | b3
      · rw [if_pos b3, if_neg (show ¬ (0 : Int32) ≤ q.2.2.2 by rw [b3]; decide)]
        have e : vp_updL (vp_updL r (17 + h) q.2.2.1.toInt64) (41 + h) (r (41 + h)) = vp_updL r (17 + h) q.2.2.1.toInt64 := funext fun j => by
          by_cases e : j = 41 + h
          · rw [e, w_rds, w_ro (by omega)]
          · rw [w_ro e]
        rw [e]
        obtain ⟨g1, g2⟩ := ih (h + 1) fu fu' (upd oo h q.2.2.1) tt _ (by omega) (by omega) (by omega) (by omega) s17
        exact ⟨g1, fun j hj => (g2 j hj).trans (w_ro (by omega))⟩
      · rw [if_neg (show ¬ q.2.2.2 = (-1 : Int32) from fun e => by rw [e] at b3; exact absurd b3 (by decide)), if_pos (show (0 : Int32) ≤ q.2.2.2 from w_0i b3)]
        have s41 := rs_41 s17 (k := h) (v := q.2.2.2) hh ⟨b3, b4⟩
        obtain ⟨g1, g2⟩ := ih (h + 1) fu fu' (upd oo h q.2.2.1) (upd tt h q.2.2.2) _ (by omega) (by omega) (by omega) (by omega) s41
        exact ⟨g1, fun j hj => (g2 j hj).trans ((w_ro (by omega)).trans (w_ro (by omega)))⟩
/-- the second reading -/
theorem lw_2 (hg : cOk g n) (hn : n ≤ 100) (s0 : ST) (W0 : SW) (x0 : MoN) (x1 : Nat → Int64) (m3 : Int32 × MoN × (Nat → Int64)) (cnt : Nat) (ok : Bool) (xx : MoN) : ∀ (m a fu fu' i : Nat) (r : Int32 × Int32 × Int32 × Int32) (y : MoN) (W : SW) (F : Nat → Int64), a ≤ n → n - a ≤ m → m < fu → m < fu' → i ≤ a → y.2.1 = n → y.2.2.1 = a → (∃ q, okB g n q a) → rs S W K c F →
    ∃ r' a' y' W' F', (L9_carryOut_7 s0 W0 fu i (cT g n a r) W).2 = (cT g n a' r', W') ∧ L11_loadWeather_96 x0 x1 g m3 cnt ok xx fu' y F = (y', F') ∧ y'.1 = y.1 ∧ y'.2.1 = n ∧ rs S W' K c F' ∧ ∀ j, 82 ≤ j → F' j = F j := by
  intro m
  induction m with
  | zero =>
    intro a fu fu' i r y W F h1 h2 h3 h4 h5 h6 h7 h8 hs
    obtain ⟨fu, rfl⟩ : ∃ q, fu = q + 1 := ⟨fu - 1, by omega⟩
    obtain ⟨fu', rfl⟩ : ∃ q, fu' = q + 1 := ⟨fu' - 1, by omega⟩
    have e : a = n := by omega
    subst e
    unfold L9_carryOut_7 L11_loadWeather_96
    rw [if_pos (show (cT g a a r).2.1 ≤ (cT g a a r).2.2.1 from Int32.le_refl _), ite_self, if_pos (show y.2.1 ≤ y.2.2.1 by omega)]
    exact ⟨r, a, y, W, F, rfl, rfl, rfl, h6, hs, fun _ _ => rfl⟩
  | succ m ih =>
    intro a fu fu' i r y W F h1 h2 h3 h4 h5 h6 h7 h8 hs
    obtain ⟨fu, rfl⟩ : ∃ q, fu = q + 1 := ⟨fu - 1, by omega⟩
    obtain ⟨fu', rfl⟩ : ∃ q, fu' = q + 1 := ⟨fu' - 1, by omega⟩
    by_cases hA : n ≤ a
    · have e : a = n := by omega
      subst e
      unfold L9_carryOut_7 L11_loadWeather_96
      rw [if_pos (show (cT g a a r).2.1 ≤ (cT g a a r).2.2.1 from Int32.le_refl _), ite_self, if_pos (show y.2.1 ≤ y.2.2.1 by omega)]
      exact ⟨r, a, y, W, F, rfl, rfl, rfl, h6, hs, fun _ _ => rfl⟩
    · obtain ⟨q1, b2, h8'⟩ := okB_s h8 (by omega)
      obtain ⟨p1, p2, p3⟩ := pE_ok g n a h1
      obtain ⟨p4, p5, p6, p7⟩ := p3 q1
      have p8 := pE_c g n a q1
      have eC : L9_carryOut_7 s0 W0 (fu + 1) i (cT g n a r) W = K9_carryOut_1 s0 W0 i (cT g n a r) W (L9_carryOut_7 s0 W0 fu) (F9_readEntry (cT g n a r)) := by
        conv => lhs; unfold L9_carryOut_7
        have n1 : ¬ (cT g n a r).2.1 ≤ (cT g n a r).2.2.1 := by
          show ¬ nI n ≤ nI a
          rw [w_leI, nI_toInt (by omega), nI_toInt (by omega)]
          omega
        rw [if_neg (by omega), if_neg n1]
      have eM : L11_loadWeather_96 x0 x1 g m3 cnt ok xx (fu' + 1) y F = K11_loadWeather_2 x0 x1 g cnt ok xx y F m3 (L11_loadWeather_96 x0 x1 g m3 cnt ok xx fu') (F11_takesEntry y g) := by
        conv => lhs; unfold L11_loadWeather_96
        rw [if_neg (by omega)]
      rw [eC, eM]
      obtain ⟨e1, r1, e2, e3⟩ := ce_eq (f := r.1) (t := r.2.1) (d := r.2.2.1) (r := r.2.2.2) hn h1 hg
      have e1 : (F9_readEntry (cT g n a r)).1 = (pE g n a).1 := e1
      have e2 : (F9_readEntry (cT g n a r)).2 = cT g n (pE g n a).2.1 r1 := e2
      have e3 := e3 q1
      subst e3
      have te := te_eq y g
      rw [h6, h7] at te
      obtain ⟨t1, t2, t3, t4, t5⟩ := te
      have t5 := t5 q1
      generalize F9_readEntry (cT g n a r) = z3 at e1 e2 ⊢
      generalize F11_takesEntry y g = z5 at t1 t2 t3 t4 t5 ⊢
      unfold K9_carryOut_1 K9_carryOut_4 K11_loadWeather_2 K11_loadWeather_3
      rw [if_pos (e1.trans q1)]
      have hfr : z3.2.2.2.2.1 = nI z5.2.2.2.2.2.1.toNatClampNeg := by
        rw [e2, t5]
        exact w_nat (w_i0 p5.1)
      have hh : z5.2.2.2.2.2.1.toNatClampNeg ≤ 23 := by
        rw [t5]
        unfold Int32.toNatClampNeg
        omega
      rw [hfr]
      generalize z5.2.2.2.2.2.1.toNatClampNeg = h0 at hh ⊢
      rw [nI_toInt (show h0 < 2 ^ 31 by omega)]
      obtain ⟨g1, g2⟩ := lw_i s0 W0 z3 i (cT g n a r) W x0 x1 m3 z5 cnt ok xx y F W.2.2 e2 t5 p6 b2 p8 p7 (24 - h0) h0 ((24 - (h0 : Int)).toNat + 1) 25 W.1 W.2.1 F (by omega) (by omega) (by omega) (by omega) hs
      generalize L9_carryOut_36 s0 W0 z3 i (cT g n a r) W ((24 - (h0 : Int)).toNat + 1) (nI h0) W.1 W.2.1 = z9 at g1 ⊢
      generalize (L11_loadWeather_117 x0 x1 g m3 z5 cnt ok xx y F 25 h0 F).2 = F1 at g1 g2 ⊢
      rw [e2]
      obtain ⟨r', a', y', W', F', k1, k2, k3, k4, k5, k6⟩ := ih (pE g n a).2.1 fu fu' (i + 1) (pE g n a).2.2 z5.2 (z9.2.1, z9.2.2, W.2.2) F1 p2 (by omega) (by omega) (by omega) (by omega) t3 t4 h8' g1
      exact ⟨r', a', y', W', F', k1, k2, k3.trans t2, k4, k5, fun j hj => (k6 j hj).trans (g2 j hj)⟩
end L
theorem loadWeather_r {u : PlS} {o k : Nat} {h : Nat → PlS} {st : ST} {x : MoN} {f : Nat → Int64} {g : SS} (R : rM u o k h st x f g) : (F10_loadWeather u o k h st).1 = (F11_loadWeather x f g).1 ∧ rM (F10_loadWeather u o k h st).2.1 (F10_loadWeather u o k h st).2.2.1.1.1 (F10_loadWeather u o k h st).2.2.1.1.2 (F10_loadWeather u o k h st).2.2.1.2 (F10_loadWeather u o k h st).2.2.2 (F11_loadWeather x f g).2.1 (F11_loadWeather x f g).2.2 g := by
  obtain ⟨t1, t2, t3, t4⟩ := R.2.2.2
  have eS : (st.1, st.2.1, (0 : Int32), st.2.2.2.1, st.2.2.2.2.1, st.2.2.2.2.2.1, st.2.2.2.2.2.2) = cT g x.2.1 0 (st.2.2.2.1, st.2.2.2.2.1, st.2.2.2.2.2.1, st.2.2.2.2.2.2) := by
    rw [t1, t2]
    rfl
  obtain ⟨r', a', x', g1, g2, g3, g4, g5⟩ := lw_1 t4 t3 st x f 100 0 101 101 0 true (st.2.2.2.1, st.2.2.2.2.1, st.2.2.2.2.2.1, st.2.2.2.2.2.2) (x.1, x.2.1, 0, x.2.2.2.1, x.2.2.2.2.1, x.2.2.2.2.2.1, x.2.2.2.2.2.2.1, x.2.2.2.2.2.2.2) (Nat.zero_le _) (by omega) (by omega) (by omega) (Nat.zero_le _) rfl rfl
  have g1 : x'.1 = x.1 := g1
  have t' : rT (cT g x.2.1 a' r') x' g := ⟨rfl, by rw [g2]; rfl, by rw [g2]; exact t3, by rw [g2]; exact t4⟩
  unfold F10_loadWeather F9_countEntries F11_loadWeather
  rw [eS]
  generalize L9_countEntries_9 st 101 0 true (cT g x.2.1 0 (st.2.2.2.1, st.2.2.2.2.1, st.2.2.2.2.2.1, st.2.2.2.2.2.2)) = z1 at g4 g5 ⊢
  obtain ⟨za, zb⟩ := z1
  have g4 : zb = cT g x.2.1 a' r' := g4
  subst g4
  unfold K10_loadWeather_1
  rcases g5 with ⟨b1, b2, b3⟩ | ⟨-, cnt', b1, b2, b3, rec9, b4⟩
  · generalize L11_loadWeather_9 x f g 101 0 true (x.1, x.2.1, 0, x.2.2.2.1, x.2.2.2.2.1, x.2.2.2.2.2.1, x.2.2.2.2.2.2.1, x.2.2.2.2.2.2.2) = mo at b2 b3 ⊢
    obtain ⟨ma, mb⟩ := mo
    have b3 : mb = (x', f) := b3
    subst b3
    rw [if_neg (show ¬ (0 : Int32) ≤ za by rw [w_leI, show (0 : Int32).toInt = 0 from by decide]; have b1 : za.toInt < 0 := b1; omega)]
    exact ⟨b2, rM_T R g1 t'⟩
  · have b2 : za = nI cnt' := b2
    subst b2
    rw [b4, if_pos (show (0 : Int32) ≤ nI cnt' from Int32.not_lt.mp (w_nn (by omega)))]
    have R' : rM u o k h st x' f g := rM_T R g1 ⟨t1, by rw [g2]; exact t2, by rw [g2]; exact t3, by rw [g2]; exact t4⟩
    obtain ⟨r1, r2, r3⟩ := rM_rec R'
    obtain ⟨n1, -⟩ := rec_x x' f
    unfold K11_loadWeather_1 K11_loadWeather_4 K10_loadWeather_2 K10_loadWeather_3 F9_carryOut K9_carryOut_5
    have hl : (F11_records x' f).2.1.2.1 = x.2.1 := by rw [n1]; exact g2
    obtain ⟨r2', a2', y', W', F', k1, k2, k3, k4, k5, k6⟩ := lw_2 t4 t3 (cT g x.2.1 a' r') (pW u) x f (F11_records x' f) cnt' true x' 100 0 101 101 0 r' ((F11_records x' f).2.1.1, (F11_records x' f).2.1.2.1, 0, (F11_records x' f).2.1.2.2.2.1, (F11_records x' f).2.1.2.2.2.2.1, (F11_records x' f).2.1.2.2.2.2.2.1, (F11_records x' f).2.1.2.2.2.2.2.2.1, (F11_records x' f).2.1.2.2.2.2.2.2.2) (pW u) (F11_records x' f).2.2 (Nat.zero_le _) (by omega) (by omega) (by omega) (Nat.zero_le _) hl rfl b3 r1.1
    rw [k2]
    have eK : ((cT g x.2.1 a' r').1, (cT g x.2.1 a' r').2.1, (0 : Int32), (cT g x.2.1 a' r').2.2.2.1, (cT g x.2.1 a' r').2.2.2.2.1, (cT g x.2.1 a' r').2.2.2.2.2.1, (cT g x.2.1 a' r').2.2.2.2.2.2) = cT g x.2.1 0 r' := rfl
    rw [eK]
    generalize L9_carryOut_7 (cT g x.2.1 a' r') (pW u) 101 0 (cT g x.2.1 0 r') (pW u) = z10 at k1 ⊢
    obtain ⟨zi, zz⟩ := z10
    have k1 : zz = (cT g x.2.1 a2' r2', W') := k1
    subst k1
    have q := r3 (u' := (pS u, W', pK u, pB u, pP u, pA u, pC u, pT u)) (f' := F') ⟨k5, rd_of r1.2.1 (fun j a b => k6 j a), r1.2.2⟩ (fun j hj => k6 j (by omega))
    refine ⟨rfl, ?_⟩
    exact rM_T q k3 ⟨rfl, by rw [k4]; rfl, by rw [k4]; exact t3, by rw [k4]; exact t4⟩
