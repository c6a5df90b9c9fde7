/-! trying out, the rest of the answers, the text -/
section K
variable {u : PlS} {o k : Nat} {h : Nat → PlS} {st : ST} {x : MoN} {f : Nat → Int64} {g : SS}
theorem rep_1 {α : Type} (w : α → α) (y : α) : Nat.repeat w 1 y = w y := rfl
set_option maxRecDepth 100000 in
theorem ns_l (x : MoN) (u u1 z2 : PlS) (y z : Nat → Int64) (hy : y 86 = (pP u).1.toInt64) : ∀ (fu i : Nat) (v : PlS) (f : Nat → Int64), i ≤ 721 → 721 - i < fu → rl (100000 + (i : Int)) v f → (L10_nextSwitch_32 u u1 z2 fu i v).1 = (L11_nextSwitch_28 x y z fu i (-9999) f).2.1 ∧ ∀ j, 174 ≤ j → (L11_nextSwitch_28 x y z fu i (-9999) f).2.2 j = f j := by
  intro fu
  induction fu with
  | zero => intro i v f _ h; exact absurd h (by omega)
  | succ fu ih =>
    intro i v f h1 h2 h3
    unfold L10_nextSwitch_32 L11_nextSwitch_28
    by_cases c1 : 720 < i
    · rw [if_pos c1, if_pos c1]
      exact ⟨rfl, fun _ _ => rfl⟩
    · rw [if_neg c1, if_neg c1, if_pos rfl]
      obtain ⟨a1, -⟩ := adv_rel x h3 (n := 1) (by omega)
      have em : F11_minutes x f 1 = F11_minute x f := by
        rw [minutes_e]
        exact rep_1 _ _
      rw [em] at a1
      have q1 : F11_minute x f 86 = 0 ↔ (pP (F5_advance v 1)).1 = 0 := mn_c (rg_8 a1.2.1) (by decide)
      have q2 : y 86 = 0 ↔ (pP u).1 = 0 := mn_c hy (by decide)
      have hm : ∀ j, 174 ≤ j → F11_minute x f j = f j := fun j hj => min_o x f j (Or.inr hj)
      unfold K10_nextSwitch_2 K11_nextSwitch_2
      generalize F11_minute x f = f1 at a1 q1 hm ⊢
      have eC : (bI (decide (f1 86 = 0)) = bI (decide (y 86 = 0))) ↔ (bI (decide ((pP (F5_advance v 1)).1 = 0)) = bI (decide ((pP u).1 = 0))) := by
        simp only [q1, q2]
      by_cases c2 : bI (decide ((pP (F5_advance v 1)).1 = 0)) = bI (decide ((pP u).1 = 0))
      · rw [if_pos c2, if_pos (eC.mpr c2)]
        obtain ⟨g1, g2⟩ := ih (i + 1) (F5_advance v 1) f1 (by omega) (by omega) (rl_m a1 (by omega))
        exact ⟨g1, fun j hj => (g2 j hj).trans (hm j hj)⟩
      · rw [if_neg c2, if_neg (fun q => c2 (eC.mp q))]
        obtain ⟨fu', rfl⟩ : ∃ m, fu = m + 1 := ⟨fu - 1, by omega⟩
        unfold L11_nextSwitch_28
        have n1 : ¬ nI i = (-9999 : Int32) := fun q => by
          have := congrArg Int32.toInt q
          rw [nI_toInt (by omega), show (-9999 : Int32).toInt = -9999 from by decide] at this
          omega
        by_cases c3 : 720 < i + 1
        · rw [if_pos c3]
          exact ⟨rfl, hm⟩
        · rw [if_neg c3, if_neg n1]
          exact ⟨rfl, hm⟩
theorem ns_c (u u1 : PlS) : F10_nextSwitch u u1 = L10_nextSwitch_32 u u1 (F5_copyFrom u1 u) 721 1 (F5_copyFrom u1 u) := rfl
theorem ns_m (x : MoN) (f : Nat → Int64) : F11_nextSwitch x f = ((L11_nextSwitch_28 x f (F11_putAside f) 721 1 (-9999) (F11_putAside f)).2.1, F11_comesBack (L11_nextSwitch_28 x f (F11_putAside f) 721 1 (-9999) (F11_putAside f)).2.2) := rfl
theorem nextSwitch_r (R : rM u o k h st x f g) (u1 : PlS) : (F10_nextSwitch u u1).1 = (F11_nextSwitch x f).1 ∧ rM u o k h st x (F11_nextSwitch x f).2 g := by
  have P := pu_o R
  obtain ⟨g1, g2⟩ := ns_l x u u1 (F5_copyFrom u1 u) f (F11_putAside f) (rg_8 R.1.2.1) 721 1 (F5_copyFrom u1 u) (F11_putAside f) (by omega) (by omega) (rl_m (rl_cpy (u := u1) P.1) (by omega))
  rw [ns_c, ns_m]
  generalize L10_nextSwitch_32 u u1 (F5_copyFrom u1 u) 721 1 (F5_copyFrom u1 u) = q at g1 ⊢
  generalize L11_nextSwitch_28 x f (F11_putAside f) 721 1 (-9999) (F11_putAside f) = w at g1 g2 ⊢
  rw [com_b (f := F11_putAside f) (fun j hj => put_s f j hj) g2]
  exact ⟨g1, P⟩
theorem bb_l (x : MoN) (u u1 : PlS) (p1 : Int32) (y z : Nat → Int64) (hz : rl 100000 u z) (hp : (p1.toNatClampNeg : Int) ≤ 360) : ∀ (fu i : Nat) (bb bb' : Int32) (lu lc : Int64) (v : PlS), i ≤ 160 → 160 - i < 10 * fu → i % 10 = 0 → ((i = 0 ∧ bb' = -9999) ∨ (i ≠ 0 ∧ bb' = bb ∧ ¬ bb = -9999)) → (L10_bestBoost_24 u u1 p1 fu i bb lu lc v).2.1 = (L11_bestBoost_30 x y p1 z fu i bb' lu lc).2.1 := by
  intro fu
  induction fu with
  | zero => intro i _ _ _ _ _ _ h; exact absurd h (by omega)
  | succ fu ih =>
    intro i bb bb' lu lc v h1 h2 h3 h4
    unfold L10_bestBoost_24 L11_bestBoost_30
    by_cases c1 : 150 < i
    · rw [if_pos c1, if_pos c1]
      rcases h4 with ⟨a, -⟩ | ⟨-, a, -⟩
      · omega
      · exact a.symm
    · rw [if_neg c1, if_neg c1]
      have e5 : F7_change (pS u) 5 (nI i) = upd (pS u) 5 (nI i) := rp_in (n := 17) (j := 5) (x := pS u) (v := nI i) (by decide) (by decide)
      have hs := rs_0 hz.1 (k := 5) (v := nI i) (by omega) (by rw [nI_toInt (by omega)]; omega)
      have hr : rl 100000 (upd (pS u) 5 (nI i), pW u, pK u, pB u, pP u, pA u, pC v, pT u) (vp_updL z 5 (nI i).toInt64) := ⟨hs, rd_of hz.2.1 (fun j a b => w_ro (by omega)), hz.2.2⟩
      obtain ⟨a1, -⟩ := adv_rel x hr (n := p1.toNatClampNeg) (by omega)
      have q1 := rg_20 a1.2.1
      have q2 := rg_23 a1.2.1
      unfold K10_bestBoost_1 K10_bestBoost_2 K10_bestBoost_3 K10_bestBoost_4 K11_bestBoost_2 K11_bestBoost_3 K11_bestBoost_4
      have eS : F7_change (pS (F5_copyFrom v u)) 5 (nI i) = upd (pS u) 5 (nI i) := e5
      rw [eS]
      have e6 : F5_advance (upd (pS u) 5 (nI i), pW (F5_copyFrom v u), pK (F5_copyFrom v u), pB (F5_copyFrom v u), pP (F5_copyFrom v u), pA (F5_copyFrom v u), pC (F5_copyFrom v u), pT (F5_copyFrom v u)) p1.toNatClampNeg = F5_advance (upd (pS u) 5 (nI i), pW u, pK u, pB u, pP u, pA u, pC v, pT u) p1.toNatClampNeg := rfl
      rw [e6]
      unfold B10_bestBoost_88 B11_bestBoost_52 F11_unmet F11_cost
      rw [q1, q2]
      generalize (pA (F5_advance (upd (pS u) 5 (nI i), pW u, pK u, pB u, pP u, pA u, pC v, pT u) p1.toNatClampNeg)).2.2.2.2.2.2.2.1 = un
      generalize (pA (F5_advance (upd (pS u) 5 (nI i), pW u, pK u, pB u, pP u, pA u, pC v, pT u) p1.toNatClampNeg)).2.2.2.2.2.2.2.2.2.2 = co
      generalize F5_advance (upd (pS u) 5 (nI i), pW u, pK u, pB u, pP u, pA u, pC v, pT u) p1.toNatClampNeg = v'
      have n1 : ¬ nI i = (-9999 : Int32) := fun q => by
        have := congrArg Int32.toInt q
        rw [nI_toInt (by omega), show (-9999 : Int32).toInt = -9999 from by decide] at this
        omega
      have hA : ∀ lu lc, (L10_bestBoost_24 u u1 p1 fu (i + 10) (nI i) lu lc v').2.1 = (L11_bestBoost_30 x y p1 z fu (i + 10) (nI i) lu lc).2.1 := fun lu lc => ih (i + 10) (nI i) (nI i) lu lc v' (by omega) (by omega) (by omega) (Or.inr ⟨by omega, rfl, n1⟩)
      rcases h4 with ⟨a, a'⟩ | ⟨a, a', a''⟩
      · subst a
        rw [if_pos rfl, if_pos a', if_pos rfl, if_pos rfl, if_pos rfl]
        exact hA un co
      · subst a'
        have hB : (L10_bestBoost_24 u u1 p1 fu (i + 10) bb' lu lc v').2.1 = (L11_bestBoost_30 x y p1 z fu (i + 10) bb' lu lc).2.1 := ih (i + 10) bb' bb' lu lc v' (by omega) (by omega) (by omega) (Or.inr ⟨by omega, rfl, a''⟩)
        rw [if_neg a, if_neg a'']
        by_cases b1 : un < lu
        · rw [if_pos b1, if_pos b1, if_pos rfl, if_pos rfl, if_pos rfl]
          exact hA un co
        · rw [if_neg b1, if_neg b1]
          by_cases b2 : un = lu
          · rw [if_pos b2, if_pos b2]
            by_cases b3 : lc ≤ co
            · rw [if_pos b3, if_pos b3, if_neg (by decide), if_neg (by decide), if_neg (by decide)]
              exact hB
            · rw [if_neg b3, if_neg b3, if_pos rfl, if_pos rfl, if_pos rfl]
              exact hA un co
          · rw [if_neg b2, if_neg b2, if_neg (by decide), if_neg (by decide), if_neg (by decide)]
            exact hB
theorem bestBoost_r (R : rM u o k h st x f g) (u1 : PlS) (p1 : Int32) : (F10_bestBoost u u1 p1).1 = (F11_bestBoost x f p1).1 ∧ rM u o k h st x (F11_bestBoost x f p1).2 g := by
  have e : F10_bestBoost u u1 p1 = if F11_in p1.toInt64 1 360 = true then (K10_bestBoost_5 u u1 p1 (L10_bestBoost_24 u u1 p1 17 0 (0 : Int32) (0 : Int64) (0 : Int64) u1)) else ((-1 : Int32), u1) := in2_e (by decide) (by decide)
  rw [e]
  unfold F11_bestBoost
  by_cases c1 : F11_in p1.toInt64 1 360 = true
  · rw [if_pos c1, if_pos c1]
    have b1 := in_iff.mp c1
    rw [show (1 : Int64).toInt = 1 from by decide, show (360 : Int64).toInt = 360 from by decide] at b1
    have hn : (p1.toNatClampNeg : Int) = p1.toInt := by
      unfold Int32.toNatClampNeg
      omega
    have P := pu_o R
    have q := bb_l x u u1 p1 f (F11_putAside f) P.1 (by omega) 17 0 0 (-9999) 0 0 u1 (by omega) (by omega) (by omega) (Or.inl ⟨rfl, rfl⟩)
    unfold K10_bestBoost_5 K11_bestBoost_1 K11_bestBoost_5
    generalize L10_bestBoost_24 u u1 p1 17 0 0 0 0 u1 = w1 at q ⊢
    generalize L11_bestBoost_30 x f p1 (F11_putAside f) 17 0 (-9999) 0 0 = w2 at q ⊢
    exact ⟨q, P⟩
  · rw [if_neg c1, if_neg c1]
    exact ⟨rfl, R⟩
/-! what follows from weather and settings -/
theorem demand_e {M : Int} (r : rl M u f) (p : Int32) : F10_demand u p = F11_demand f p := by
  unfold F10_demand F11_demand
  rw [k_hour]
  by_cases c : F11_isHour p = true
  · rw [if_pos c, if_pos c]
    have e := w_hrN c
    have hl := w_hrL c
    have e2 : F5_demandIn u p = dI (pS u) (pW u) (nI p.toNatClampNeg) := by
      rw [← e]
      rfl
    rw [e2, ← dI_e r.1 hl, Int32.toInt32_toInt64]
  · rw [if_neg c, if_neg c]
theorem target_e {M : Int} (r : rl M u f) (p : Int32) : F10_target u p = F11_target x f p := by
  unfold F10_target F11_target
  rw [k_hour]
  by_cases c : F11_isHour p = true
  · rw [if_pos c, if_pos c]
    have e := w_hrN c
    have hl := w_hrL c
    have e2 : F5_targetIn u p = tI (pS u) (pW u) (pK u) (nI p.toNatClampNeg) := by
      rw [← e]
      rfl
    rw [e2, ← (tI_e x r.1 hl).1, Int32.toInt32_toInt64]
  · rw [if_neg c, if_neg c]
/-! the checksum -/
theorem mix_e (a b : Int64) : F10_mixed a b = (31 : Int64) * a + b := rfl
theorem dg_1 {M : Int} (r : rl M u f) (p1 : Int64) : ∀ (fu i : Nat) (z : Int64), i ≤ 17 → 17 - i < fu → (L10_mixedWithSettings_5 u p1 fu i z).2 = (L11_digest_12 x f fu i z).2 := by
  intro fu
  induction fu with
  | zero => intro i z _ h; exact absurd h (by omega)
  | succ fu ih =>
    intro i z h1 h2
    unfold L10_mixedWithSettings_5 L11_digest_12
    by_cases c : 17 ≤ i
    · rw [if_pos c, if_pos c]
    · rw [if_neg c, if_neg c, ih (i + 1) _ (by omega) (by omega), mix_e, setting_e r]
theorem dg_2 {M : Int} (r : rl M u f) (p1 : Int64) (a b : Nat × Int64) : ∀ (fu i : Nat) (z : Int64), i ≤ 24 → 24 - i < fu → (L10_mixedWithSettings_33 u p1 a fu i z).2 = (L11_digest_39 x f b fu i z).2 := by
  intro fu
  induction fu with
  | zero => intro i z _ h; exact absurd h (by omega)
  | succ fu ih =>
    intro i z h1 h2
    unfold L10_mixedWithSettings_33 L11_digest_39
    by_cases c : 24 ≤ i
    · rw [if_pos c, if_pos c]
    · rw [if_neg c, if_neg c, ih (i + 1) _ (by omega) (by omega), mix_e, mix_e, mix_e, mix_e, outdoor_e r, tariff_e r, demand_e r, target_e (x := x) r]
theorem dg_3 {M : Int} (r : rl M u f) (p1 : Int64) (a b : Nat × Int64) : ∀ (fu i : Nat) (z : Int64), i ≤ 4 → 4 - i < fu → (L10_mixedWithBuffer_5 u p1 fu i z).2 = (L11_digest_135 x f a b fu i z).2 := by
  intro fu
  induction fu with
  | zero => intro i z _ h; exact absurd h (by omega)
  | succ fu ih =>
    intro i z h1 h2
    unfold L10_mixedWithBuffer_5 L11_digest_135
    by_cases c : 4 ≤ i
    · rw [if_pos c, if_pos c]
    · rw [if_neg c, if_neg c, ih (i + 1) _ (by omega) (by omega), mix_e, temperature_e r]
theorem dg_4 {M : Int} (r : rl M u f) (p1 : Int64) (a b d : Nat × Int64) : ∀ (fu i : Nat) (z : Int64), i ≤ 12 → 12 - i < fu → (L10_mixedWithSimulation_23 u p1 fu i z).2 = (L11_digest_196 x f a b d fu i z).2 := by
  intro fu
  induction fu with
  | zero => intro i z _ h; exact absurd h (by omega)
  | succ fu ih =>
    intro i z h1 h2
    unfold L10_mixedWithSimulation_23 L11_digest_196
    by_cases c : 12 ≤ i
    · rw [if_pos c, if_pos c]
    · rw [if_neg c, if_neg c, ih (i + 1) _ (by omega) (by omega), mix_e, minutesWith_e r]
theorem dg_5 (a b d e : Nat × Int64) (z : Int64) : (L11_digest_271 x f a b d e 8 0 z).2 = (31 : Int64) * ((31 : Int64) * ((31 : Int64) * ((31 : Int64) * ((31 : Int64) * ((31 : Int64) * ((31 : Int64) * z + f 107) + f 108) + f 109) + f 110) + f 111) + f 112) + f 113 := by
  unfold L11_digest_271 L11_digest_271 L11_digest_271 L11_digest_271 L11_digest_271 L11_digest_271 L11_digest_271 L11_digest_271
  rfl
theorem dj_2 {M : Int} (r : rl M u f) (b : Nat × Int64) (z : Int64) : (L11_digest_39 x f b 25 0 z).2 = (L11_digest_39 x f (0, 0) 25 0 z).2 := (dg_2 r 0 (0, 0) b 25 0 z (by omega) (by omega)).symm.trans (dg_2 r 0 (0, 0) (0, 0) 25 0 z (by omega) (by omega))
theorem dj_3 {M : Int} (r : rl M u f) (a b : Nat × Int64) (z : Int64) : (L11_digest_135 x f a b 5 0 z).2 = (L11_digest_135 x f (0, 0) (0, 0) 5 0 z).2 := (dg_3 r 0 a b 5 0 z (by omega) (by omega)).symm.trans (dg_3 r 0 (0, 0) (0, 0) 5 0 z (by omega) (by omega))
theorem dj_4 {M : Int} (r : rl M u f) (a b d : Nat × Int64) (z : Int64) : (L11_digest_196 x f a b d 13 0 z).2 = (L11_digest_196 x f (0, 0) (0, 0) (0, 0) 13 0 z).2 := (dg_4 r 0 a b d 13 0 z (by omega) (by omega)).symm.trans (dg_4 r 0 (0, 0) (0, 0) (0, 0) 13 0 z (by omega) (by omega))
theorem digest_e (R : rM u o k h st x f g) : F10_digest u o k st = F11_digest x f := by
  obtain ⟨r, -, ⟨-, -, rk⟩, -, t2, -, -⟩ := R
  unfold F10_digest F11_digest K11_digest_1 K11_digest_2 K11_digest_3 K11_digest_4 K11_digest_5 F10_mixedWithAccounts F10_mixedWithSimulation K10_mixedWithSimulation_1 F10_mixedWithBuffer K10_mixedWithBuffer_1 F10_mixedWithSettings K10_mixedWithSettings_1 K10_mixedWithSettings_2
  rw [dg_5, dj_4 r, dj_3 r, dj_2 r]
  rw [dg_4 (x := x) r _ (0, 0) (0, 0) (0, 0) 13 0 _ (by omega) (by omega), dg_3 (x := x) r _ (0, 0) (0, 0) 5 0 _ (by omega) (by omega), dg_2 (x := x) r _ _ (0, 0) 25 0 _ (by omega) (by omega), dg_1 (x := x) r _ 18 0 _ (by omega) (by omega)]
  obtain ⟨s1, s2, s3, s4, s5, s6, s7⟩ := sums_e r
  rw [s1, s2, s3, s4, s5, s6, s7, frost_e r, defrosts_e r, starts_e r, lastHour_e x r, reason_e r, pump_e r, stored_e r, time_e r, supply_e x r, supply_e x r, supply_e x r, supply_e x r, supply_e x r, supply_e x r, supply_e x r, supply_e x r, t2, rk, mix_e 19700]
  rfl
end K
