/-! what the law asks of a change -/
abbrev QZ := Bool × PlS × PlS × ((Nat × Nat) × (Nat → PlS))
def okc (u : PlS) (k : Nat) (r : Prop) (w : QZ) : Prop := w.1 = true ∧ Hv w.2.1 w.2.2.2.1.1 w.2.2.2.1.2 w.2.2.2.2 ∧ (r → w.2.1 = u ∧ w.2.2.2.1.2 = k)
theorem okc_t {u p q : PlS} {k o' k' : Nat} {h' : Nat → PlS} {r : Prop} (H : Hv p o' k' h') (hr : ¬ r) : okc u k r (true, (p, q, ((o', k'), h'))) := ⟨rfl, H, fun h => absurd h hr⟩
section A
variable {u u1 : PlS} {o k : Nat} {h : Nat → PlS} {r : Prop}
/-! a run -/
theorem c720 {n : Nat} (hn : n ≤ 600) : ¬ (720 : Int32) < nI n := by
  rw [w_ltI, nI_toInt (by omega), show (720 : Int32).toInt = 720 from by decide]
  omega
theorem nI_n9 {a : Nat} (ha : a < 2 ^ 31) : ¬ nI a = (-9999 : Int32) := fun q => by
  have := congrArg Int32.toInt q
  rw [nI_toInt ha, show (-9999 : Int32).toInt = -9999 from by decide] at this
  omega
theorem t158 {n : Nat} {inn : Int64} {v : PlS} {z1 : Int32 × PlS} {z3 : RZ} (hn : 1 ≤ n) (hn2 : n ≤ 600) (hx : nsR u z1.1) (e3 : z3.2.1 = stN n u) : T12_runs_158 u u1 o k h (nI n) inn v z1 z3 = T12_runs_221 u u1 o k h (nI n) inn v z1 z3 := by
  have c7 := c720 hn2
  have eP : F10_pump z3.2.1 = (pP (stN n u)).1 := by rw [e3]; rfl
  have eQ : F10_pump u = (pP u).1 := rfl
  unfold T12_runs_158
  rw [eP, eQ]
  rcases hx with ⟨e, hs⟩ | ⟨a, a1, a2, e, hs1, hs2⟩
  · have hs' : bI (decide ((pP (stN n u)).1 = (0 : Int32))) = bI (decide ((pP u).1 = (0 : Int32))) := hs n hn (by omega)
    rw [if_neg (show ¬ z1.1 = nI n from fun q => nI_n9 (a := n) (by omega) (q.symm.trans e)), if_pos e, if_neg c7, if_pos hs']
  · have c9 : ¬ z1.1 = (-9999 : Int32) := by rw [e]; exact nI_n9 (by omega)
    by_cases c : a = n
    · subst c
      have hs' : ¬ bI (decide ((pP (stN a u)).1 = (0 : Int32))) = bI (decide ((pP u).1 = (0 : Int32))) := hs1
      rw [if_pos e, if_neg hs', if_neg c9, if_pos (show z1.1 ≤ nI a by rw [e]; exact Int32.le_refl _)]
    · rw [if_neg (show ¬ z1.1 = nI n from fun q => c ((nI_eq (by omega) (by omega)).mp (e.symm.trans q))), if_neg c9]
      by_cases c2 : a < n
      · rw [if_pos (show z1.1 ≤ nI n by rw [e]; exact (nI_leI (by omega) (by omega)).mpr (by omega))]
      · have hs' : bI (decide ((pP (stN n u)).1 = (0 : Int32))) = bI (decide ((pP u).1 = (0 : Int32))) := hs2 n hn (by omega)
        rw [if_neg (show ¬ z1.1 ≤ nI n by rw [e]; exact fun q => c2 (by have := (nI_leI (by omega) (by omega)).mp q; omega)), if_neg c7, if_pos hs']
theorem t221 {n : Nat} {inn : Int64} {v : PlS} {z1 : Int32 × PlS} {z3 : RZ} (H : Hv u o k h) (hz : cz u (stN n u) k z3) (hI : Iv (stN n u)) (ht : (pT u).toInt + (n : Int) ≤ 100000) (hr : ¬ r) : okc u k r (T12_runs_221 u u1 o k h (nI n) inn v z1 z3) := by
  obtain ⟨t, et, htl, ett⟩ := nat_n H.1.2.2.2.1.1
  obtain ⟨-, g2, -, -⟩ := stN_ok H.1 n ht
  have g3 := stN_d H.1 et n (by omega)
  have eD : F12_demands z3.2.1 (F10_time u) (nI n) = dS u t n := by
    rw [hz.1, show F10_time u = nI t from et, de_e (by omega)]
    exact dS_c (stN_s n u).1 (stN_s n u).2.1 t n
  have g2' : F10_stored z3.2.1 - F10_stored u = F12_net z3.2.1 - F12_net u := by rw [hz.1]; exact g2
  have g3' : (F10_drawn z3.2.1 + F10_unmet z3.2.1) - (F10_drawn u + F10_unmet u) = F12_demands z3.2.1 (F10_time u) (nI n) := by rw [eD, hz.1]; exact g3
  unfold T12_runs_221
  rw [if_pos g2', if_pos g3']
  exact okc_t (cz_H hz hI) hr
theorem ru_k {n : Nat} (H : Hv u o k h) (hn : 1 ≤ n) (hn2 : n ≤ 600) (hr : ¬ r) : okc u k r (F12_runs u u1 o k h (nI n)) := by
  have hT := H.1.2.2.2.1
  unfold F12_runs
  rw [if_neg (c720 hn2)]
  unfold K12_runs_3 T12_runs_59 K12_runs_1
  have hc := co_q (u := u) (v := u1) hn (by omega) hT.1 hT.2
  generalize F10_costIn u u1 (nI n) = z33 at hc ⊢
  have hx := ns_ok1 (u := u) (u1 := z33.2) hT.1 hT.2
  generalize F10_nextSwitch u z33.2 = z1 at hx ⊢
  have ea : (F10_time u + nI n).toInt = (pT u).toInt + (n : Int) := by
    show (pT u + nI n).toInt = _
    rw [ar_a32 (by rw [nI_toInt (by omega)]; omega) (by rw [nI_toInt (by omega)]; omega), nI_toInt (by omega)]
  unfold K12_runs_2
  by_cases ht : (pT u).toInt + (n : Int) ≤ 100000
  · obtain ⟨r1, r2, r3⟩ := rn_ok H hn (by omega) ht
    generalize F10_run u o k h (nI n) = z3 at r1 r2 ⊢
    have e1 : z3.1 = F10_starts z3.2.1 - F10_starts u := by rw [r2.1]; exact r1
    have e2 : F10_time z3.2.1 = F10_time u + nI n := by rw [r2.1]; exact (stN_s n u).2.2.2
    have e3 : F10_cost z3.2.1 - F10_cost u = z33.1 := by rw [r2.1]; exact hc.symm
    have e5 : okc u k r (T12_runs_158 u u1 o k h (nI n) z33.1 z33.2 z1 z3) := by
      rw [t158 hn hn2 hx r2.1]
      exact t221 H r2 r3 ht hr
    rw [if_pos (show F10_time u + nI n ≤ (100000 : Int32) by rw [w_leI, ea, show (100000 : Int32).toInt = 100000 from by decide]; exact ht), if_pos e1, if_pos e2]
    by_cases c : z33.1 < (0 : Int64)
    · rw [if_pos c]
      exact e5
    · rw [if_neg c, if_pos e3]
      exact e5
  · have hz := rn_no H hn (by omega) ht
    generalize F10_run u o k h (nI n) = z3 at hz ⊢
    have q1 : z3.1 = (-3 : Int32) := by rw [hz]
    have q2 : F10_time z3.2.1 = F10_time u := by rw [hz]
    have q3 : Hv z3.2.1 z3.2.2.1.1 z3.2.2.1.2 z3.2.2.2 := by rw [hz]; exact H
    rw [if_neg (show ¬ F10_time u + nI n ≤ (100000 : Int32) by rw [w_leI, ea, show (100000 : Int32).toInt = 100000 from by decide]; exact ht), if_pos q1, if_pos q2]
    exact okc_t q3 hr
theorem lo_1 (p : Int32) {n : Nat} (h0 : 0 < n) (h1 : n < 2 ^ 30) : ∃ a : Nat, (1 : Int32) + F12_low p (nI n) = nI a ∧ 1 ≤ a ∧ a ≤ n := by
  obtain ⟨a, e, ha⟩ := lo_in p h0 (by omega)
  exact ⟨1 + a, by rw [e]; exact nI_add 1 a, by omega, by omega⟩
theorem ch_5 (H : Hv u o k h) (hr : ¬ r) (y z : Int32) {x : Int32} (hx : ∃ a : Nat, x = nI a ∧ 1 ≤ a ∧ a ≤ 600) : okc u k r (K12_changes_21 u u1 o k h y z (F12_runs u u1 o k h x)) := by
  obtain ⟨a, rfl, a1, a2⟩ := hx
  unfold K12_changes_21
  exact ru_k H a1 a2 hr
/-! weather, tariffs, prices, settings, fillings -/
theorem lo_m {b m : Nat} {M : Int32} (hM : M.toInt = (m : Int)) (hm : m < 2 ^ 20) (hb : b < 2 ^ 20) : (nI b - M).toInt = (b : Int) - (m : Int) := by
  rw [ar_s32 (by rw [hM, nI_toInt (by omega)]; omega) (by rw [hM, nI_toInt (by omega)]; omega), hM, nI_toInt (by omega)]
theorem ch_6 (H : Hv u o k h) (hr : ¬ r) (y z : Int32) : okc u k r (K12_changes_20 u u1 o k h y z (F10_setOutdoor u o k h (F12_low z (24 : Int32)) ((F12_low (z >>> ((5 : Int32) &&& 31)) (701 : Int32)) - (300 : Int32)))) := by
  obtain ⟨a, ea, ha⟩ : ∃ a : Nat, F12_low z (24 : Int32) = nI a ∧ a < 24 := lo_in z (n := 24) (by omega) (by omega)
  obtain ⟨b, eb, hb⟩ : ∃ b : Nat, F12_low (z >>> ((5 : Int32) &&& 31)) (701 : Int32) = nI b ∧ b < 701 := lo_in _ (n := 701) (by omega) (by omega)
  have ev : (nI b - (300 : Int32)).toInt = (b : Int) - 300 := lo_m (m := 300) (by decide) (by omega) (by omega)
  unfold K12_changes_20
  rw [ea, eb]
  obtain ⟨e1, e2, e3⟩ := so_ok H (a := a) (v := nI b - (300 : Int32)) ha (by rw [ev]; omega)
  generalize F10_setOutdoor u o k h (nI a) (nI b - (300 : Int32)) = w at e1 e2 ⊢
  rw [if_neg (cz_0 e2 e1), if_pos (show F10_outdoor w.2.1 (nI a) = nI b - (300 : Int32) by rw [e2.1]; exact (el_in ha (by decide)).trans (upd_at _ _ _))]
  exact okc_t (cz_H e2 e3) hr
theorem ch_7 (H : Hv u o k h) (hr : ¬ r) (y z : Int32) : okc u k r (K12_changes_19 u u1 o k h y z (F10_setTariff u o k h (F12_low z (24 : Int32)) (F12_low (z >>> ((5 : Int32) &&& 31)) (3 : Int32)))) := by
  obtain ⟨a, ea, ha⟩ : ∃ a : Nat, F12_low z (24 : Int32) = nI a ∧ a < 24 := lo_in z (n := 24) (by omega) (by omega)
  obtain ⟨b, eb, hb⟩ : ∃ b : Nat, F12_low (z >>> ((5 : Int32) &&& 31)) (3 : Int32) = nI b ∧ b < 3 := lo_in _ (n := 3) (by omega) (by omega)
  unfold K12_changes_19
  rw [ea, eb]
  obtain ⟨e1, e2, e3⟩ := st_ok2 H ha hb
  generalize F10_setTariff u o k h (nI a) (nI b) = w at e1 e2 ⊢
  rw [if_neg (cz_0 e2 e1), if_pos (show F10_tariff w.2.1 (nI a) = nI b by rw [e2.1]; exact (el_in ha (by decide)).trans (upd_at _ _ _))]
  exact okc_t (cz_H e2 e3) hr
theorem ch_8 (H : Hv u o k h) (hr : ¬ r) (y z : Int32) : okc u k r (K12_changes_18 u u1 o k h y z (F10_set u o k h (F12_low z (17 : Int32)) ((F12_low (z >>> ((5 : Int32) &&& 31)) (700 : Int32)) - (40 : Int32)))) := by
  obtain ⟨a, ea, ha⟩ : ∃ a : Nat, F12_low z (17 : Int32) = nI a ∧ a < 17 := lo_in z (n := 17) (by omega) (by omega)
  unfold K12_changes_18
  generalize ((F12_low (z >>> ((5 : Int32) &&& 31)) (700 : Int32)) - (40 : Int32)) = v
  rw [ea]
  by_cases hv : (sLE a).toInt ≤ v.toInt ∧ v.toInt ≤ (sMO a).toInt
  · obtain ⟨e1, e2, e3⟩ := se_ok H ha hv
    generalize F10_set u o k h (nI a) v = w at e1 e2 ⊢
    rw [if_neg (cz_0 e2 e1), if_pos (show F10_setting w.2.1 (nI a) = v by rw [e2.1]; exact (el_in ha (by decide)).trans (upd_at _ _ _))]
    exact okc_t (cz_H e2 e3) hr
  · have hz := se_no (u := u) (o := o) (k := k) (h := h) ha hv
    generalize F10_set u o k h (nI a) v = w at hz ⊢
    have q1 : w.1 = (-1 : Int32) := by rw [hz]
    have q2 : F10_setting w.2.1 (nI a) = F10_setting u (nI a) := by rw [hz]
    have q3 : Hv w.2.1 w.2.2.1.1 w.2.2.1.2 w.2.2.2 := by rw [hz]; exact H
    rw [if_pos (show w.1 ≤ (0 : Int32) by rw [q1]; decide), if_pos q1, if_pos q2]
    exact okc_t q3 hr
theorem te_in {c t i : Nat} (hi : i < 4) (hc0 : 100 ≤ c) (hc : c ≤ 5000) (ht : t ≤ 700) : (F1_temperatureOf (fun _ => (nI c).toInt64 * (nI t).toInt64, nI c) (nI i)).toInt32 = nI t := by
  have e := tm_i (E := fun _ => (nI c).toInt64 * (nI t).toInt64) (c := nI c) hi (by rw [nI_toInt (by omega)]; omega)
  have e2 : (F1_temperatureOf (fun _ => (nI c).toInt64 * (nI t).toInt64, nI c) (nI i)).toInt = (t : Int) := by
    rw [e]
    show ((nI c).toInt64 * (nI t).toInt64).toInt / (nI c).toInt = (t : Int)
    rw [(fi_e hc ht).1, nI_toInt (by omega)]
    exact Int.mul_ediv_cancel_left _ (by omega)
  apply Int32.toInt_inj.mp
  rw [ar_n (by rw [e2]; omega) (by rw [e2]; omega), e2, nI_toInt (by omega)]
theorem ch_9 (H : Hv u o k h) (hr : ¬ r) (y z : Int32) : okc u k r (K12_changes_17 u u1 o k h y z (F10_fill u o k h ((100 : Int32) + (F12_low z (4901 : Int32))) (F12_low (z >>> ((4 : Int32) &&& 31)) (701 : Int32)))) := by
  obtain ⟨c0, ec0, hc0⟩ : ∃ a : Nat, F12_low z (4901 : Int32) = nI a ∧ a < 4901 := lo_in z (n := 4901) (by omega) (by omega)
  obtain ⟨t, et, ht⟩ : ∃ b : Nat, F12_low (z >>> ((4 : Int32) &&& 31)) (701 : Int32) = nI b ∧ b < 701 := lo_in _ (n := 701) (by omega) (by omega)
  have ec : (100 : Int32) + nI c0 = nI (100 + c0) := nI_add 100 c0
  unfold K12_changes_17
  rw [ec0, et, ec]
  generalize hcc : 100 + c0 = c
  obtain ⟨e1, e2, e3⟩ := fi_ok H (c := c) (t := t) (by omega) (by omega) (by omega)
  generalize F10_fill u o k h (nI c) (nI t) = w at e1 e2 ⊢
  have q1 : F10_stored w.2.1 = ((4 : Int64) * (nI c).toInt64) * (nI t).toInt64 := by
    rw [e2.1]
    show (((0 : Int64) + (nI c).toInt64 * (nI t).toInt64) + (nI c).toInt64 * (nI t).toInt64) + (nI c).toInt64 * (nI t).toInt64 + (nI c).toInt64 * (nI t).toInt64 = _
    grind
  have q2 : F10_temperature w.2.1 (0 : Int32) = nI t := by
    rw [e2.1]
    exact te_in (i := 0) (by omega) (by omega) (by omega) (by omega)
  have q3 : F10_temperature w.2.1 (3 : Int32) = nI t := by
    rw [e2.1]
    exact te_in (i := 3) (by omega) (by omega) (by omega) (by omega)
  rw [if_neg (cz_0 e2 e1), if_pos q1, if_pos q2, if_pos q3]
  exact okc_t (cz_H e2 e3) hr
theorem ch_12 (H : Hv u o k h) (hr : ¬ r) (y z : Int32) : okc u k r (K12_changes_14 u u1 o k h y z (F10_setPrice u o k h (F12_low z (3 : Int32)) (F12_low (z >>> ((3 : Int32) &&& 31)) (1001 : Int32)))) := by
  obtain ⟨a, ea, ha⟩ : ∃ a : Nat, F12_low z (3 : Int32) = nI a ∧ a < 3 := lo_in z (n := 3) (by omega) (by omega)
  obtain ⟨b, eb, hb⟩ : ∃ b : Nat, F12_low (z >>> ((3 : Int32) &&& 31)) (1001 : Int32) = nI b ∧ b < 1001 := lo_in _ (n := 1001) (by omega) (by omega)
  unfold K12_changes_14
  rw [ea, eb]
  obtain ⟨e1, e2, e3⟩ := sp_ok H (a := a) (b := b) ha (by omega)
  generalize F10_setPrice u o k h (nI a) (nI b) = w at e1 e2 ⊢
  rw [if_neg (cz_0 e2 e1)]
  exact okc_t (cz_H e2 e3) hr
/-! what is refused changes nothing -/
theorem ch_14 (H : Hv u o k h) (y z : Int32) : okc u k r (K12_changes_1 u u1 o k h y z (F10_setOutdoor u o k h (24 : Int32) (0 : Int32))) := by
  have f1 : F10_setOutdoor u o k h (24 : Int32) (0 : Int32) = ((-1 : Int32), (u, ((o, k), h))) := by
    unfold F10_setOutdoor
    exact if_neg (by decide)
  have f2 : F10_setTariff u o k h (0 : Int32) (3 : Int32) = ((-1 : Int32), (u, ((o, k), h))) := by
    unfold F10_setTariff
    rw [if_pos (show F8_isHour (0 : Int32) = true by decide)]
    exact if_neg (by decide)
  have f3 : F10_fill u o k h (99 : Int32) (0 : Int32) = ((-1 : Int32), (u, ((o, k), h))) := by
    unfold F10_fill
    exact if_neg (by decide)
  have f4 : F10_run u o k h (1441 : Int32) = ((-1 : Int32), (u, ((o, k), h))) := by
    unfold F10_run
    rw [if_neg (by decide), if_neg (by decide)]
  have f5 : F10_addPoint u o k h (401 : Int32) (300 : Int32) = ((-1 : Int32), (u, ((o, k), h))) := by
    unfold F10_addPoint
    exact if_neg (by decide)
  have f6 : F10_minutesWith u (12 : Int32) = (-1 : Int32) := by
    unfold F10_minutesWith F10_elementOr
    rw [if_neg (by decide), if_pos (by decide)]
  rw [f1]
  unfold K12_changes_1
  rw [if_pos rfl]
  show okc u k r (K12_changes_2 u u1 o k h y z _ (F10_setTariff u o k h (0 : Int32) (3 : Int32)))
  rw [f2]
  unfold K12_changes_2
  rw [if_pos rfl]
  show okc u k r (K12_changes_3 u u1 o k h y z _ _ (F10_fill u o k h (99 : Int32) (0 : Int32)))
  rw [f3]
  unfold K12_changes_3
  rw [if_pos rfl]
  show okc u k r (K12_changes_4 u u1 o k h y z _ _ _ (F10_run u o k h (1441 : Int32)))
  rw [f4]
  unfold K12_changes_4
  rw [if_pos rfl]
  show okc u k r (K12_changes_5 u u1 o k h y z _ _ _ _ (F10_addPoint u o k h (401 : Int32) (300 : Int32)))
  rw [f5]
  unfold K12_changes_5
  rw [if_pos rfl, if_pos f6]
  exact ⟨rfl, H, fun _ => ⟨rfl, rfl⟩⟩
end A
