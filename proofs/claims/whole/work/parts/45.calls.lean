/-! the whole: the object and the model's -/
def rT (st : ST) (x : MoN) (g : SS) : Prop := st.1 = g ∧ st.2.1 = nI x.2.1 ∧ x.2.1 ≤ 100 ∧ cOk g x.2.1
def rM (u : PlS) (o k : Nat) (h : Nat → PlS) (st : ST) (x : MoN) (f : Nat → Int64) (g : SS) : Prop := rl 100000 u f ∧ rH o k h f ∧ (o < 4 ∧ k ≤ 4 ∧ x.1 = k) ∧ rT st x g
theorem rec_x (x : MoN) (f : Nat → Int64) : (F11_records x f).2.1.2 = x.2 ∧ (F11_records x f).1 = nI (F11_records x f).2.1.1 := by
  unfold F11_records
  split
  · exact ⟨rfl, rfl⟩
  · exact ⟨rfl, rfl⟩
section K
variable {u : PlS} {o k : Nat} {h : Nat → PlS} {st : ST} {x : MoN} {f : Nat → Int64} {g : SS}
theorem rM_of (R : rM u o k h st x f g) {f' : Nat → Int64} (e : ∀ j, j < 870 → f' j = f j) : rM u o k h st x f' g :=
  ⟨rl_of R.1 (fun j hj => e j (by omega)), fun i hi => rl_of (R.2.1 i hi) (fun j hj => e _ (by have := R.2.2.1.2.1; omega)), R.2.2⟩
/-- a change that is recorded first -/
theorem rM_rec (R : rM u o k h st x f g) : rl 100000 u (F11_records x f).2.2 ∧ (F4_record o k h u).1 = nI (F11_records x f).2.1.1 ∧
    ∀ {u' : PlS} {f' : Nat → Int64}, rl 100000 u' f' → (∀ j, 174 ≤ j → f' j = (F11_records x f).2.2 j) → rM u' (F4_record o k h u).2.1.1 (F4_record o k h u).2.1.2 (F4_record o k h u).2.2 st (F11_records x f).2.1 f' g := by
  obtain ⟨r1, r2, ⟨r3, r4, r5⟩, t1, t2, t3, t4⟩ := R
  obtain ⟨a1, a2, a3, a4, a5, a6⟩ := rec_rel r3 r4 r5 r1 r2
  obtain ⟨b1, b2⟩ := rec_x x f
  refine ⟨a5, a1.trans b2, fun {u' f'} hu hf => ⟨hu, fun i hi => rl_of (a6 i hi) (fun j hj => hf _ (by omega)), ⟨a3, a4, a2⟩, t1, ?_, ?_, ?_⟩⟩
  · rw [b1]; exact t2
  · rw [b1]; exact t3
  · rw [b1]; exact t4
/-! settings, weather, tariffs, prices, contents: one cell of what a minute leaves -/
theorem rK_of {K : SK} {f f' : Nat → Int64} (h : rK K f) (e : ∀ j, 68 ≤ j → j ≤ 80 → f' j = f j) : rK K f' := by
  obtain ⟨k1, k2, k3, k4, k5, k6, k7⟩ := h
  refine ⟨(e _ (by omega) (by omega)).trans k1, k2, k3, k4, fun i hi => ?_, fun j hj => ?_, fun i j hij hj => ?_⟩
  · obtain ⟨j, hj, a, b⟩ := k5 i hi
    exact ⟨j, hj, (e _ (by omega) (by omega)).trans a, (e _ (by omega) (by omega)).trans b⟩
  · obtain ⟨i, hi, a, b⟩ := k6 j hj
    exact ⟨i, hi, (e _ (by omega) (by omega)).trans a, (e _ (by omega) (by omega)).trans b⟩
  · rw [e _ (by omega) (by omega), e _ (by omega) (by omega)]
    exact k7 i j hij hj
theorem up_e {s : SS} {v : Int32} {k j : Nat} {f : Nat → Int64} {a : Nat} (h : f (a + j) = (s j).toInt64) : vp_updL f (a + k) v.toInt64 (a + j) = (upd s k v j).toInt64 := by
  by_cases e : j = k
  · subst e
    exact (w_rds _ _ _).trans (congrArg Int32.toInt64 (show v = upd s j v j from (if_pos rfl).symm))
  · rw [w_ro (show a + j ≠ a + k by omega), h, pk_un e]
theorem up_b {s : SS} {v : Int32} {k j : Nat} {lo hi : Int} (h : lo ≤ (s j).toInt ∧ (s j).toInt ≤ hi) (hv : lo ≤ v.toInt ∧ v.toInt ≤ hi) : lo ≤ (upd s k v j).toInt ∧ (upd s k v j).toInt ≤ hi := by
  by_cases e : j = k
  · subst e
    rw [pk_us]
    exact hv
  · rw [pk_un e]
    exact h
section S
variable {S : SS} {W : SW} {K : SK} {c : Int32}
theorem rs_0 (h : rs S W K c f) {k : Nat} {v : Int32} (hk : k < 17) (hv : -50 ≤ v.toInt ∧ v.toInt ≤ 20000) : rs (upd S k v) W K c (vp_updL f (0 + k) v.toInt64) := by
  obtain ⟨h1, h2, h3, h4, h5, h6, h7, h8⟩ := h
  refine ⟨fun j hj => ?_, fun j hj => (w_ro (by omega)).trans (h2 j hj), fun j hj => (w_ro (by omega)).trans (h3 j hj), fun j hj => (w_ro (by omega)).trans (h4 j hj), rK_of h5 (fun j a b => w_ro (by omega)), (w_ro (by omega)).trans h6, fun j hj => up_b (h7 j hj) hv, h8⟩
  have := up_e (a := 0) (k := k) (v := v) (f := f) (j := j) (s := S) (by rw [Nat.zero_add]; exact h1 j hj)
  rw [Nat.zero_add] at this ⊢
  rw [Nat.zero_add] at this
  exact this
theorem rs_17 (h : rs S W K c f) {k : Nat} {v : Int32} (hk : k < 24) (hv : -300 ≤ v.toInt ∧ v.toInt ≤ 400) : rs S (upd W.1 k v, W.2) K c (vp_updL f (17 + k) v.toInt64) := by
  obtain ⟨h1, h2, h3, h4, h5, h6, h7, h8, h9⟩ := h
  exact ⟨fun j hj => (w_ro (by omega)).trans (h1 j hj), fun j hj => up_e (h2 j hj), fun j hj => (w_ro (by omega)).trans (h3 j hj), fun j hj => (w_ro (by omega)).trans (h4 j hj), rK_of h5 (fun j a b => w_ro (by omega)), (w_ro (by omega)).trans h6, h7, ⟨fun j hj => up_b (h8.1 j hj) hv, h8.2⟩, h9⟩
theorem rs_41 (h : rs S W K c f) {k : Nat} {v : Int32} (hk : k < 24) (hv : 0 ≤ v.toInt ∧ v.toInt ≤ 2) : rs S (W.1, upd W.2.1 k v, W.2.2) K c (vp_updL f (41 + k) v.toInt64) := by
  obtain ⟨h1, h2, h3, h4, h5, h6, h7, h8, h9⟩ := h
  exact ⟨fun j hj => (w_ro (by omega)).trans (h1 j hj), fun j hj => (w_ro (by omega)).trans (h2 j hj), fun j hj => up_e (h3 j hj), fun j hj => (w_ro (by omega)).trans (h4 j hj), rK_of h5 (fun j a b => w_ro (by omega)), (w_ro (by omega)).trans h6, h7, ⟨h8.1, fun j hj => up_b (h8.2.1 j hj) hv, h8.2.2⟩, h9⟩
theorem rs_65 (h : rs S W K c f) {k : Nat} {v : Int32} (hk : k < 3) (hv : 0 ≤ v.toInt ∧ v.toInt ≤ 1000) : rs S (W.1, W.2.1, upd W.2.2 k v) K c (vp_updL f (65 + k) v.toInt64) := by
  obtain ⟨h1, h2, h3, h4, h5, h6, h7, h8, h9⟩ := h
  exact ⟨fun j hj => (w_ro (by omega)).trans (h1 j hj), fun j hj => (w_ro (by omega)).trans (h2 j hj), fun j hj => (w_ro (by omega)).trans (h3 j hj), fun j hj => up_e (h4 j hj), rK_of h5 (fun j a b => w_ro (by omega)), (w_ro (by omega)).trans h6, h7, ⟨h8.1, h8.2.1, fun j hj => up_b (h8.2.2 j hj) hv⟩, h9⟩
theorem rs_81 (h : rs S W K c f) {v : Int32} (hv : bB v) : rs S W K v (vp_updL f 81 v.toInt64) := by
  obtain ⟨h1, h2, h3, h4, h5, h6, h7, h8, h9, h10⟩ := h
  exact ⟨fun j hj => (w_ro (by omega)).trans (h1 j hj), fun j hj => (w_ro (by omega)).trans (h2 j hj), fun j hj => (w_ro (by omega)).trans (h3 j hj), fun j hj => (w_ro (by omega)).trans (h4 j hj), rK_of h5 (fun j a b => w_ro (by omega)), w_rds _ _ _, h7, h8, h9, hv⟩
end S
theorem ix_e {p : Int32} {n : Nat} (h0 : 0 ≤ p.toInt) (h1 : p.toInt < (n : Int)) : p.toNatClampNeg < n := by
  unfold Int32.toNatClampNeg
  omega
theorem st_bd : ∀ j, j < 17 → -50 ≤ (sLE j).toInt ∧ (sMO j).toInt ≤ 20000 := by decide
theorem set_r (R : rM u o k h st x f g) (p1 p2 : Int32) : (F10_set u o k h p1 p2).1 = (F11_set x f p1 p2).1 ∧ rM (F10_set u o k h p1 p2).2.1 (F10_set u o k h p1 p2).2.2.1.1 (F10_set u o k h p1 p2).2.2.1.2 (F10_set u o k h p1 p2).2.2.2 st (F11_set x f p1 p2).2.1 (F11_set x f p1 p2).2.2 g := by
  unfold F10_set F11_set F7_allows
  by_cases c1 : F11_in p1.toInt64 0 16 = true
  · have b1 := in_iff.mp c1
    rw [show (0 : Int64).toInt = 0 from by decide, show (16 : Int64).toInt = 16 from by decide] at b1
    have hl : p1.toNatClampNeg < 17 := ix_e b1.1 (by omega)
    have n1 : ¬ p1 < 0 := w_i0 b1.1
    have n2 : ¬ (17 : Int32) ≤ p1 := by
      rw [w_leI, show (17 : Int32).toInt = 17 from by decide]
      omega
    rw [if_pos c1, if_neg n1, if_neg n2, if_neg n2]
    have e2 : (if p2 < sLE p1.toNatClampNeg then false else if sMO p1.toNatClampNeg < p2 then false else true) = F11_in p2.toInt64 ((F11_least p1.toNatClampNeg).toInt64) ((F11_most p1.toNatClampNeg).toInt64) := in_eq (w_two.trans (by rw [Int32.toInt_toInt64, Int32.toInt_toInt64]; exact Iff.rfl))
    rw [e2]
    by_cases c2 : F11_in p2.toInt64 ((F11_least p1.toNatClampNeg).toInt64) ((F11_most p1.toNatClampNeg).toInt64) = true
    · rw [if_pos c2, if_pos c2]
      have b2 := in_iff.mp c2
      rw [Int32.toInt_toInt64, Int32.toInt_toInt64] at b2
      have b3 := st_bd _ hl
      have b2 : (sLE p1.toNatClampNeg).toInt ≤ p2.toInt ∧ p2.toInt ≤ (sMO p1.toNatClampNeg).toInt := b2
      obtain ⟨r1, r2, r3⟩ := rM_rec R
      have eC : F7_change (pS u) p1 p2 = upd (pS u) p1.toNatClampNeg p2 := rp_i (by decide) b1.1 (by omega)
      unfold K10_set_1 K10_set_2 K11_set_1
      rw [eC]
      refine ⟨r2, r3 ⟨rs_0 r1.1 hl (by omega), rd_of r1.2.1 (fun j a b => w_ro (by omega)), r1.2.2⟩ (fun j hj => w_ro (by omega))⟩
    · rw [if_neg c2, if_neg c2]
      exact ⟨rfl, R⟩
  · have b1 := mt in_iff.mpr c1
    rw [show (0 : Int64).toInt = 0 from by decide, show (16 : Int64).toInt = 16 from by decide] at b1
    rw [if_neg c1]
    by_cases n1 : p1 < 0
    · rw [if_pos n1, if_neg (by decide)]
      exact ⟨rfl, R⟩
    · rw [w_ltI, show (0 : Int32).toInt = 0 from by decide] at n1
      have n2 : (17 : Int32) ≤ p1 := by
        rw [w_leI, show (17 : Int32).toInt = 17 from by decide]
        omega
      rw [if_neg (w_i0 (by omega)), if_pos n2, if_neg (by decide)]
      exact ⟨rfl, R⟩
theorem hr_b {p : Int32} (h : F11_isHour p = true) : 0 ≤ p.toInt ∧ p.toInt < 24 := by
  have b := in_iff.mp (show F11_in p.toInt64 0 23 = true from h)
  rw [show (0 : Int64).toInt = 0 from by decide, show (23 : Int64).toInt = 23 from by decide] at b
  omega
theorem setOutdoor_r (R : rM u o k h st x f g) (p1 p2 : Int32) : (F10_setOutdoor u o k h p1 p2).1 = (F11_setOutdoor x f p1 p2).1 ∧ rM (F10_setOutdoor u o k h p1 p2).2.1 (F10_setOutdoor u o k h p1 p2).2.2.1.1 (F10_setOutdoor u o k h p1 p2).2.2.1.2 (F10_setOutdoor u o k h p1 p2).2.2.2 st (F11_setOutdoor x f p1 p2).2.1 (F11_setOutdoor x f p1 p2).2.2 g := by
  unfold F10_setOutdoor F11_setOutdoor
  rw [k_hour, k_outdoor]
  by_cases c1 : F11_isHour p1 = true
  · rw [if_pos c1, if_pos c1]
    have b1 := hr_b c1
    by_cases c2 : F11_in p2.toInt64 (-300) 400 = true
    · rw [if_pos c2, if_pos c2]
      have b2 := in_iff.mp c2
      rw [show (-300 : Int64).toInt = -300 from by decide, show (400 : Int64).toInt = 400 from by decide] at b2
      obtain ⟨r1, r2, r3⟩ := rM_rec R
      have hl : p1.toNatClampNeg < 24 := ix_e b1.1 b1.2
      have eC : F10_replace 24 ((pW u).1) p1 p2 = upd ((pW u).1) p1.toNatClampNeg p2 := rp_i (by decide) b1.1 b1.2
      unfold K10_setOutdoor_1 K10_setOutdoor_2 K11_setOutdoor_1
      rw [eC]
      exact ⟨r2, r3 ⟨rs_17 r1.1 hl b2, rd_of r1.2.1 (fun j a b => w_ro (by omega)), r1.2.2⟩ (fun j hj => w_ro (by omega))⟩
    · rw [if_neg c2, if_neg c2]
      exact ⟨rfl, R⟩
  · rw [if_neg c1, if_neg c1]
    exact ⟨rfl, R⟩
theorem setTariff_r (R : rM u o k h st x f g) (p1 p2 : Int32) : (F10_setTariff u o k h p1 p2).1 = (F11_setTariff x f p1 p2).1 ∧ rM (F10_setTariff u o k h p1 p2).2.1 (F10_setTariff u o k h p1 p2).2.2.1.1 (F10_setTariff u o k h p1 p2).2.2.1.2 (F10_setTariff u o k h p1 p2).2.2.2 st (F11_setTariff x f p1 p2).2.1 (F11_setTariff x f p1 p2).2.2 g := by
  unfold F10_setTariff F11_setTariff
  rw [k_hour, k_tariff]
  by_cases c1 : F11_isHour p1 = true
  · rw [if_pos c1, if_pos c1]
    have b1 := hr_b c1
    by_cases c2 : F11_in p2.toInt64 0 2 = true
    · rw [if_pos c2, if_pos c2]
      have b2 := in_iff.mp c2
      rw [show (0 : Int64).toInt = 0 from by decide, show (2 : Int64).toInt = 2 from by decide] at b2
      obtain ⟨r1, r2, r3⟩ := rM_rec R
      have hl : p1.toNatClampNeg < 24 := ix_e b1.1 b1.2
      have eC : F10_replace 24 ((pW u).2.1) p1 p2 = upd ((pW u).2.1) p1.toNatClampNeg p2 := rp_i (by decide) b1.1 b1.2
      unfold K10_setTariff_1 K10_setTariff_2 K11_setTariff_1
      rw [eC]
      exact ⟨r2, r3 ⟨rs_41 r1.1 hl b2, rd_of r1.2.1 (fun j a b => w_ro (by omega)), r1.2.2⟩ (fun j hj => w_ro (by omega))⟩
    · rw [if_neg c2, if_neg c2]
      exact ⟨rfl, R⟩
  · rw [if_neg c1, if_neg c1]
    exact ⟨rfl, R⟩
theorem setPrice_r (R : rM u o k h st x f g) (p1 p2 : Int32) : (F10_setPrice u o k h p1 p2).1 = (F11_setPrice x f p1 p2).1 ∧ rM (F10_setPrice u o k h p1 p2).2.1 (F10_setPrice u o k h p1 p2).2.2.1.1 (F10_setPrice u o k h p1 p2).2.2.1.2 (F10_setPrice u o k h p1 p2).2.2.2 st (F11_setPrice x f p1 p2).2.1 (F11_setPrice x f p1 p2).2.2 g := by
  unfold F10_setPrice F11_setPrice
  rw [k_tariff, k_price]
  by_cases c1 : F11_in p1.toInt64 0 2 = true
  · rw [if_pos c1, if_pos c1]
    have b1 := in_iff.mp c1
    rw [show (0 : Int64).toInt = 0 from by decide, show (2 : Int64).toInt = 2 from by decide] at b1
    by_cases c2 : F11_in p2.toInt64 0 1000 = true
    · rw [if_pos c2, if_pos c2]
      have b2 := in_iff.mp c2
      rw [show (0 : Int64).toInt = 0 from by decide, show (1000 : Int64).toInt = 1000 from by decide] at b2
      obtain ⟨r1, r2, r3⟩ := rM_rec R
      have hl : p1.toNatClampNeg < 3 := ix_e b1.1 (by omega)
      have eC : F10_replace 3 ((pW u).2.2) p1 p2 = upd ((pW u).2.2) p1.toNatClampNeg p2 := rp_i (by decide) b1.1 (by omega)
      unfold K10_setPrice_1 K10_setPrice_2 K11_setPrice_1
      rw [eC]
      exact ⟨r2, r3 ⟨rs_65 r1.1 hl b2, rd_of r1.2.1 (fun j a b => w_ro (by omega)), r1.2.2⟩ (fun j hj => w_ro (by omega))⟩
    · rw [if_neg c2, if_neg c2]
      exact ⟨rfl, R⟩
  · rw [if_neg c1, if_neg c1]
    exact ⟨rfl, R⟩
theorem rd_E {N : Int} {E E' : Nat → Int64} {P : SP} {A : SA} {T : Int32} (h : rd N E P A T f) (e : ∀ j, j < 4 → E' j = E j) : rd N E' P A T f := ⟨fun j hj => (h.1 j hj).trans (e j hj).symm, h.2⟩
theorem fill_r (R : rM u o k h st x f g) (p1 p2 : Int32) : (F10_fill u o k h p1 p2).1 = (F11_fill x f p1 p2).1 ∧ rM (F10_fill u o k h p1 p2).2.1 (F10_fill u o k h p1 p2).2.2.1.1 (F10_fill u o k h p1 p2).2.2.1.2 (F10_fill u o k h p1 p2).2.2.2 st (F11_fill x f p1 p2).2.1 (F11_fill x f p1 p2).2.2 g := by
  unfold F10_fill F11_fill
  rw [k_litres, k_filling]
  by_cases c1 : F11_in p1.toInt64 100 5000 = true
  · rw [if_pos c1, if_pos c1]
    have b1 := in_iff.mp c1
    rw [show (100 : Int64).toInt = 100 from by decide, show (5000 : Int64).toInt = 5000 from by decide] at b1
    by_cases c2 : F11_in p2.toInt64 0 700 = true
    · rw [if_pos c2, if_pos c2]
      obtain ⟨r1, r2, r3⟩ := rM_rec R
      unfold K10_fill_1 K10_fill_2 K11_fill_1 K11_fill_2 F1_refill F11_layEnergies
      generalize p1.toInt64 * p2.toInt64 = v
      generalize (F11_records x f).2.2 = F at r1 r3 ⊢
      have hF : ∀ j, j ≤ 81 → vp_updL (vp_updL (vp_updL (vp_updL (vp_updL F 81 p1.toInt64) 82 v) 83 v) 84 v) 85 v j = vp_updL F 81 p1.toInt64 j := fun j hj => by
        rw [w_ro (by omega), w_ro (by omega), w_ro (by omega), w_ro (by omega)]
      have hG : ∀ j, 174 ≤ j → vp_updL (vp_updL (vp_updL (vp_updL (vp_updL F 81 p1.toInt64) 82 v) 83 v) 84 v) 85 v j = F j := fun j hj => by
        rw [w_ro (by omega), w_ro (by omega), w_ro (by omega), w_ro (by omega), w_ro (by omega)]
      refine ⟨r2, r3 ⟨?_, ?_, r1.2.2⟩ hG⟩
      · exact rs_of (rs_81 r1.1 b1) hF
      · have d0 := rd_of r1.2.1 (g := vp_updL F 81 p1.toInt64) (fun j a b => w_ro (by omega))
        have d1 := rd_82 (rd_82 (rd_82 (rd_82 d0 (k := 0) (v := v) (by omega)) (k := 1) (v := v) (by omega)) (k := 2) (v := v) (by omega)) (k := 3) (v := v) (by omega)
        refine rd_E d1 (fun j hj => ?_)
        rcases (show j = 0 ∨ j = 1 ∨ j = 2 ∨ j = 3 by omega) with rfl | rfl | rfl | rfl <;> rfl
    · rw [if_neg c2, if_neg c2]
      exact ⟨rfl, R⟩
  · rw [if_neg c1, if_neg c1]
    exact ⟨rfl, R⟩
theorem undo_r (R : rM u o k h st x f g) : (F10_undo u o k h).1 = (F11_undo x f).1 ∧ rM (F10_undo u o k h).2.1 (F10_undo u o k h).2.2.1.1 (F10_undo u o k h).2.2.1.2 (F10_undo u o k h).2.2.2 st (F11_undo x f).2.1 (F11_undo x f).2.2 g := by
  obtain ⟨r1, r2, ⟨r3, r4, r5⟩, t⟩ := R
  obtain ⟨a1, a2, a3, a4, a5, a6, a7⟩ := undo_rel r5 r1 r2
  refine ⟨a1, a6, a7, ⟨by rw [a4]; exact r3, by omega, a2⟩, ?_⟩
  unfold rT
  rw [a3]
  exact t
/-- within bounds, or an error -/
theorem in2_e {α : Type} {p a b : Int32} {lo hi : Int64} {X Y : α} (ha : lo.toInt = a.toInt) (hb : hi.toInt = b.toInt) : (if p < a then X else if p ≤ b then Y else X) = if F11_in p.toInt64 lo hi = true then Y else X := by
  by_cases c : F11_in p.toInt64 lo hi = true
  · have b1 := in_iff.mp c
    rw [if_pos c, if_neg (by rw [w_ltI]; omega), if_pos (by rw [w_leI]; omega)]
  · have b1 := mt in_iff.mpr c
    rw [if_neg c]
    by_cases c1 : p < a
    · rw [if_pos c1]
    · rw [if_neg c1, if_neg]
      rw [w_ltI] at c1
      rw [w_leI]
      omega
theorem run_r (R : rM u o k h st x f g) (p1 : Int32) : (F10_run u o k h p1).1 = (F11_run x f p1).1 ∧ rM (F10_run u o k h p1).2.1 (F10_run u o k h p1).2.2.1.1 (F10_run u o k h p1).2.2.1.2 (F10_run u o k h p1).2.2.2 st (F11_run x f p1).2.1 (F11_run x f p1).2.2 g := by
  have e : F10_run u o k h p1 = if F11_in p1.toInt64 1 1440 = true then (if ((pT u) + p1) ≤ (100000 : Int32) then (K10_run_1 u o k h p1 (F4_record o k h u)) else ((-3 : Int32), (u, ((o, k), h)))) else ((-1 : Int32), (u, ((o, k), h))) := in2_e (by decide) (by decide)
  rw [e]
  unfold F11_run
  by_cases c1 : F11_in p1.toInt64 1 1440 = true
  · rw [if_pos c1, if_pos c1]
    have b1 := in_iff.mp c1
    rw [show (1 : Int64).toInt = 1 from by decide, show (1440 : Int64).toInt = 1440 from by decide] at b1
    have h91 := rg_12 R.1.2.1
    have hT := R.1.2.2
    have e1 : (pT u + p1).toInt = (pT u).toInt + p1.toInt := ar_a32 (by omega) (by omega)
    have e2 : f 91 + p1.toInt64 = (pT u + p1).toInt64 := by rw [h91]; exact ad_64 (by omega) (by omega)
    have e3 : (f 91 + p1.toInt64 ≤ 100000) ↔ (pT u + p1 ≤ 100000) := by
      rw [e2, w_leL, w_leI, Int32.toInt_toInt64]
      exact Iff.rfl
    by_cases c2 : pT u + p1 ≤ 100000
    · rw [if_pos c2, if_pos (e3.mpr c2)]
      rw [w_leI, e1, show (100000 : Int32).toInt = 100000 from by decide] at c2
      obtain ⟨r1, r2, r3⟩ := rM_rec R
      have hn : (p1.toNatClampNeg : Int) = p1.toInt := by
        unfold Int32.toNatClampNeg
        omega
      have r0 : rl (pT u).toInt u (F11_records x f).2.2 := ⟨r1.1, r1.2.1, r1.2.2.1, Int.le_refl _⟩
      obtain ⟨a1, -⟩ := adv_rel (F11_records x f).2.1 r0 (n := p1.toNatClampNeg) (by omega)
      have a2 := rl_m a1 (show (pT u).toInt + (p1.toNatClampNeg : Int) ≤ 100000 by omega)
      unfold K10_run_1 K10_run_2 K11_run_1 K11_run_2
      refine ⟨?_, r3 a2 (fun j hj => mns_o _ _ _ j (Or.inr hj))⟩
      have q1 := rg_15 a1.2.1
      have q2 := rg_15 r1.2.1
      have k1 := (rg_27 a1.2.1).2.1
      have k2 := (rg_27 r1.2.1).2.1
      have hT1 := a1.2.2
      show (pA (F5_advance u p1.toNatClampNeg)).2.2.1 - (pA u).2.2.1 = ((F11_minutes (F11_records x f).2.1 (F11_records x f).2.2 p1.toNatClampNeg 105) - ((F11_records x f).2.2 105)).toInt32
      rw [q1, q2, sb_64, Int32.toInt32_toInt64]
      · have := k1.1; have := k2.2; omega
      · have := k1.2; have := k2.1; omega
    · rw [if_neg c2, if_neg (fun q => c2 (e3.mp q))]
      exact ⟨rfl, R⟩
  · rw [if_neg c1, if_neg c1]
    exact ⟨rfl, R⟩
theorem pu_o (R : rM u o k h st x f g) : rM u o k h st x (F11_putAside f) g := rM_of R (fun j hj => put_o f j hj)
theorem costIn_r (R : rM u o k h st x f g) (u1 : PlS) (p1 : Int32) : (F10_costIn u u1 p1).1 = (F11_costIn x f p1).1 ∧ rM u o k h st x (F11_costIn x f p1).2 g := by
  have e : F10_costIn u u1 p1 = if F11_in p1.toInt64 1 720 = true then (K10_costIn_1 u u1 p1 (F5_copyFrom u1 u)) else ((-1 : Int64), u1) := in2_e (by decide) (by decide)
  rw [e]
  unfold F11_costIn
  by_cases c1 : F11_in p1.toInt64 1 720 = true
  · rw [if_pos c1, if_pos c1]
    have b1 := in_iff.mp c1
    rw [show (1 : Int64).toInt = 1 from by decide, show (720 : Int64).toInt = 720 from by decide] at b1
    have hn : (p1.toNatClampNeg : Int) = p1.toInt := by
      unfold Int32.toNatClampNeg
      omega
    have P := pu_o R
    unfold K10_costIn_1 K10_costIn_2 K11_costIn_1 K11_costIn_2 K11_costIn_3
    obtain ⟨a1, -⟩ := adv_rel x (rl_cpy (u := u1) P.1) (n := p1.toNatClampNeg) (by omega)
    rw [com_b (f := F11_putAside f) (fun j hj => put_s f j hj) (fun j hj => mns_o _ _ _ j (Or.inr hj))]
    refine ⟨?_, P⟩
    show (pA (F5_advance (F5_copyFrom u1 u) p1.toNatClampNeg)).2.2.2.2.2.2.2.2.2.2 - (pA u).2.2.2.2.2.2.2.2.2.2 = (F11_minutes x (F11_putAside f) p1.toNatClampNeg) 113 - (F11_putAside f) 113
    rw [rg_23 a1.2.1, rg_23 P.1.2.1]
  · rw [if_neg c1, if_neg c1]
    exact ⟨rfl, R⟩
end K
