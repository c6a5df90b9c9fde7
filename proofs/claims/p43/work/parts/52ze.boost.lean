/-! the best BOOST holds against another one -/
theorem wc_sB (u : PlS) (a b : Nat) (c : SC) : uS (wC (sB u a) c) (upd (pS (wC (sB u a) c)) 5 (nI b)) = wC (sB u b) c := by
  have e : upd (upd (pS u) 5 (nI a)) 5 (nI b) = upd (pS u) 5 (nI b) := funext fun j => by
    by_cases h : j = 5
    · subst h
      rw [upd_at, upd_at]
    · show (if j = 5 then nI b else (if j = 5 then nI a else pS u j)) = (if j = 5 then nI b else pS u j)
      rw [if_neg h, if_neg h, if_neg h]
  have e2 : uS (wC (sB u a) c) (upd (pS (wC (sB u a) c)) 5 (nI b)) = wC (uS u (upd (upd (pS u) 5 (nI a)) 5 (nI b))) c := rfl
  rw [e2, e]
  rfl
theorem c5 {v : Int32} (h1 : 0 ≤ v.toInt) (h2 : v.toInt ≤ 150) : (sLE 5).toInt ≤ v.toInt ∧ v.toInt ≤ (sMO 5).toInt := by
  rw [show (sLE 5).toInt = 0 from by decide, show (sMO 5).toInt = 150 from by decide]
  exact ⟨h1, h2⟩
theorem m10 {m : Nat} (hm : m < 2 ^ 20) : (10 : Int32) * nI m = nI (10 * m) := by
  apply Int32.toInt_inj.mp
  have e : (10 : Int32).toInt = 10 := by decide
  rw [ar_m32 (by rw [e, nI_toInt (by omega)]; omega) (by rw [e, nI_toInt (by omega)]; omega), e, nI_toInt (by omega), nI_toInt (by omega)]
  omega
section A
variable {u u1 : PlS} {o k : Nat} {h : Nat → PlS} {r : Prop}
theorem k11 {y z : Int32} {z21 : Int32 × PlS} {z24 z27 z29 z33 z35 : RZ} {n a m : Nat} (em : F12_low (z >>> ((8 : Int32) &&& 31)) (16 : Int32) = nI m) (m1 : m < 16) (a1 : a ≤ 150) (a3 : z21.1 = nI a) (e27 : z27.2.1 = stN n (sB u a)) (e35 : z35.2.1 = stN n (sB u (10 * m))) (q1 : (0 : Int32) ≤ z35.1) (hl : lx u n a (10 * m)) : K12_changes_11 u u1 o k h y z z21 z24 z27 z29 z33 z35 = T12_changes_751 u u1 o k h y z z21 z24 z27 z29 z33 z35 true := by
  have p1 : F10_unmet z27.2.1 = F10_unmet (stN n (sB u a)) := by rw [e27]
  have p2 : F10_unmet z35.2.1 = F10_unmet (stN n (sB u (10 * m))) := by rw [e35]
  have p3 : F10_cost z27.2.1 = F10_cost (stN n (sB u a)) := by rw [e27]
  have p4 : F10_cost z35.2.1 = F10_cost (stN n (sB u (10 * m))) := by rw [e35]
  unfold lx at hl
  rw [← p1, ← p2, ← p3, ← p4] at hl
  unfold K12_changes_11
  rw [if_pos q1]
  rcases hl with c | ⟨c, c' | ⟨c', c''⟩⟩
  · rw [if_pos (show F10_unmet z27.2.1 < F10_unmet z35.2.1 from lt64.mpr c)]
  · rw [if_neg (show ¬ F10_unmet z27.2.1 < F10_unmet z35.2.1 by rw [lt64]; omega), if_pos (show F10_unmet z27.2.1 = F10_unmet z35.2.1 from Int64.toInt_inj.mp c), if_pos (show F10_cost z27.2.1 < F10_cost z35.2.1 from lt64.mpr c')]
  · rw [if_neg (show ¬ F10_unmet z27.2.1 < F10_unmet z35.2.1 by rw [lt64]; omega), if_pos (show F10_unmet z27.2.1 = F10_unmet z35.2.1 from Int64.toInt_inj.mp c), if_neg (show ¬ F10_cost z27.2.1 < F10_cost z35.2.1 by rw [lt64]; omega), if_pos (show F10_cost z27.2.1 = F10_cost z35.2.1 from Int64.toInt_inj.mp c'), em, m10 (by omega), if_neg (show ¬ nI (10 * m) < z21.1 by rw [a3]; exact nI_nlt c'' (by omega))]
/-- from the second run on -/
theorem k10 {y z : Int32} {z21 : Int32 × PlS} {z24 z27 z29 z33 : RZ} {n a m k9 : Nat} {c1 : SC} {w : PlS} (en : (1 : Int32) + F12_low z (90 : Int32) = nI n) (n1 : 1 ≤ n) (n2 : n ≤ 90) (em : F12_low (z >>> ((8 : Int32) &&& 31)) (16 : Int32) = nI m) (m1 : m < 16) (a1 : a ≤ 150) (a2 : a % 10 = 0) (a3 : z21.1 = nI a) (e27 : z27.2.1 = stN n (sB u a)) (hl : lx u n a (10 * m)) (hI : Iv u) (ht : (pT u).toInt + (n : Int) ≤ 100000) (t1 : z33.1 = nI z33.2.2.1.2) (t2 : cz w (wC (sB u (10 * m)) c1) k9 z33) (t3 : Iv (wC (sB u (10 * m)) c1)) (hr : ¬ r) : okc u k r (K12_changes_10 u u1 o k h y z z21 z24 z27 z29 z33) := by
  have H33 := cz_H t2 t3
  have hx : z33.2.1 = wC (sB u (10 * m)) c1 := t2.1
  have hT33 : (pT z33.2.1).toInt = (pT u).toInt := by rw [hx]; rfl
  unfold K12_changes_10
  rw [if_neg (cz_1 t2 t1), en]
  have q1 := st_le (n := n) H33.1 (by rw [hT33]; exact ht)
  obtain ⟨v1, v2, v3⟩ := rn_ok H33 n1 (by omega) (by rw [hT33]; exact ht)
  rw [← v1] at q1
  clear v1
  generalize F10_run z33.2.1 z33.2.2.1.1 z33.2.2.1.2 z33.2.2.2 (nI n) = z35 at q1 v2 ⊢
  have H35 := cz_H v2 v3
  have e35 : z35.2.1 = stN n (sB u (10 * m)) := by rw [v2.1, hx]; exact stN_wC n1 _ _
  rw [k11 em m1 a1 a3 e27 e35 q1 hl]
  unfold T12_changes_751
  rw [if_pos rfl]
  obtain ⟨c2, eu2⟩ := cz_un v2
  have H38 := un_H H35
  generalize F10_undo z35.2.1 z35.2.2.1.1 z35.2.2.1.2 z35.2.2.2 = z38 at eu2 H38 ⊢
  have g0 : z38.1 = nI (z35.2.2.1.2 - 1) := congrArg (fun q : RZ => q.1) eu2
  have hk4 := v2.2.2.2.1
  unfold K12_changes_12
  rw [if_neg (show ¬ z38.1 < (0 : Int32) by rw [g0]; exact nI_pos (by omega))]
  have e5 : F10_setting u (5 : Int32) = pS u 5 := el_in (n := 17) (j := 5) (by omega) (by decide)
  rw [e5]
  obtain ⟨x1, x2, x3⟩ := se_ok H38 (a := 5) (v := pS u 5) (by omega) (hI.1 5 (by omega))
  have x1 : (F10_set z38.2.1 z38.2.2.1.1 z38.2.2.1.2 z38.2.2.2 (5 : Int32) (pS u 5)).1 = nI (F10_set z38.2.1 z38.2.2.1.1 z38.2.2.1.2 z38.2.2.2 (5 : Int32) (pS u 5)).2.2.1.2 := x1
  have x2 : cz z38.2.1 (uS z38.2.1 (upd (pS z38.2.1) 5 (pS u 5))) z38.2.2.1.2 (F10_set z38.2.1 z38.2.2.1.1 z38.2.2.1.2 z38.2.2.2 (5 : Int32) (pS u 5)) := x2
  generalize F10_set z38.2.1 z38.2.2.1.1 z38.2.2.1.2 z38.2.2.2 (5 : Int32) (pS u 5) = z40 at x1 x2 ⊢
  have er : nI a - nI a / (10 : Int32) * (10 : Int32) = (0 : Int32) := by
    have e : nI a - nI a / (10 : Int32) * (10 : Int32) = nI (a % 10) := pk_rem (a := a) (d := 10) (by omega) (by omega) (by omega)
    rw [e, a2]
    rfl
  unfold K12_changes_13
  rw [a3, if_neg (cz_0 x2 x1), if_neg (show ¬ nI a < (0 : Int32) from nI_pos (by omega)), if_neg (show ¬ (150 : Int32) < nI a by rw [w_ltI, nI_toInt (by omega), show (150 : Int32).toInt = 150 from by decide]; omega), if_pos er]
  exact okc_t (cz_H x2 x3) hr
theorem ch_13 (H : Hv u o k h) (hr : ¬ r) (y z : Int32) : okc u k r (K12_changes_6 u u1 o k h y z (F10_bestBoost u u1 ((1 : Int32) + (F12_low z (90 : Int32))))) := by
  have hT := H.1.2.2.2.1
  obtain ⟨n, en, n1, n2⟩ : ∃ n : Nat, (1 : Int32) + F12_low z (90 : Int32) = nI n ∧ 1 ≤ n ∧ n ≤ 90 := lo_1 z (n := 90) (by omega) (by omega)
  obtain ⟨m, em, m1⟩ : ∃ m : Nat, F12_low (z >>> ((8 : Int32) &&& 31)) (16 : Int32) = nI m ∧ m < 16 := lo_in _ (n := 16) (by omega) (by omega)
  have ea : (F10_time u + nI n).toInt = (pT u).toInt + (n : Int) := by
    show (pT u + nI n).toInt = _
    rw [ar_a32 (by rw [nI_toInt (by omega)]; omega) (by rw [nI_toInt (by omega)]; omega), nI_toInt (by omega)]
  have e1k : (100000 : Int32).toInt = 100000 := by decide
  obtain ⟨a, a1, a2, a3, a4⟩ := bb_ok (u := u) (u1 := u1) n1 (by omega) hT.1 hT.2
  rw [en]
  generalize F10_bestBoost u u1 (nI n) = z21 at a3 ⊢
  unfold K12_changes_6
  rw [en]
  by_cases ht : (pT u).toInt + (n : Int) ≤ 100000
  · rw [if_neg (show ¬ (100000 : Int32) < F10_time u + nI n by rw [w_ltI, ea, e1k]; omega), a3]
    obtain ⟨s1, s2, s3⟩ := se_ok H (a := 5) (v := nI a) (by omega) (c5 (by rw [nI_toInt (by omega)]; omega) (by rw [nI_toInt (by omega)]; omega))
    have s1 : (F10_set u o k h (5 : Int32) (nI a)).1 = nI (F10_set u o k h (5 : Int32) (nI a)).2.2.1.2 := s1
    have s2 : cz u (sB u a) k (F10_set u o k h (5 : Int32) (nI a)) := s2
    have s3 : Iv (sB u a) := s3
    generalize F10_set u o k h (5 : Int32) (nI a) = z24 at s1 s2 ⊢
    have H24 := cz_H s2 s3
    have hw : z24.2.1 = sB u a := s2.1
    have hT24 : (pT z24.2.1).toInt = (pT u).toInt := by rw [hw]; rfl
    unfold K12_changes_7
    rw [if_neg (cz_1 s2 s1), en]
    have q0 := st_le (n := n) H24.1 (by rw [hT24]; exact ht)
    obtain ⟨r1, r2, r3⟩ := rn_ok H24 n1 (by omega) (by rw [hT24]; exact ht)
    rw [← r1] at q0
    clear r1
    generalize F10_run z24.2.1 z24.2.2.1.1 z24.2.2.1.2 z24.2.2.2 (nI n) = z27 at q0 r2 ⊢
    have H27 := cz_H r2 r3
    have e27 : z27.2.1 = stN n (sB u a) := by rw [r2.1, hw]
    have hk4 := r2.2.2.2.1
    unfold K12_changes_8
    rw [if_pos q0]
    obtain ⟨c1, eu⟩ := cz_un r2
    have H29 := un_H H27
    generalize F10_undo z27.2.1 z27.2.2.1.1 z27.2.2.1.2 z27.2.2.2 = z29 at eu H29 ⊢
    have g0 : z29.1 = nI (z27.2.2.1.2 - 1) := congrArg (fun q : RZ => q.1) eu
    have g2 : z29.2.1 = wC z24.2.1 c1 := congrArg (fun q : RZ => q.2.1) eu
    rw [hw] at g2
    have g3 : F10_unmet z29.2.1 = F10_unmet u := by rw [g2]; rfl
    have g4 : F10_cost z29.2.1 = F10_cost u := by rw [g2]; rfl
    unfold K12_changes_9
    rw [if_neg (show ¬ z29.1 < (0 : Int32) by rw [g0]; exact nI_pos (by omega)), if_pos g3, if_pos g4, em, m10 (by omega)]
    obtain ⟨t1, t2, t3⟩ := se_ok H29 (a := 5) (v := nI (10 * m)) (by omega) (c5 (by rw [nI_toInt (by omega)]; omega) (by rw [nI_toInt (by omega)]; omega))
    have t4 : uS z29.2.1 (upd (pS z29.2.1) 5 (nI (10 * m))) = wC (sB u (10 * m)) c1 := by rw [g2]; exact wc_sB u a (10 * m) c1
    rw [t4] at t2 t3
    exact k10 en n1 n2 em m1 a1 a2 a3 e27 (a4 (10 * m) (by omega) (by omega)) H.1 ht t1 t2 t3 hr
  · rw [if_pos (show (100000 : Int32) < F10_time u + nI n by rw [w_ltI, ea, e1k]; omega), if_neg (show ¬ F10_time u + nI n ≤ (100000 : Int32) by rw [w_leI, ea, e1k]; exact ht)]
    exact okc_t H hr
theorem ch_ok (H : Hv u o k h) (y z : Int32) : okc u k (¬ (y &&& (15 : Int32)) ≤ (13 : Int32)) (F12_changes u u1 o k h y z) := by
  unfold F12_changes
  by_cases c : (6 : Int32) ≤ (y &&& (15 : Int32))
  · rw [if_pos c]
    by_cases c6 : (y &&& (15 : Int32)) = (6 : Int32)
    · rw [if_pos c6]
      exact ch_6 H (by rw [c6]; decide) y z
    · rw [if_neg c6]
      by_cases c7 : (y &&& (15 : Int32)) = (7 : Int32)
      · rw [if_pos c7]
        exact ch_7 H (by rw [c7]; decide) y z
      · rw [if_neg c7]
        by_cases c8 : (y &&& (15 : Int32)) = (8 : Int32)
        · rw [if_pos c8]
          exact ch_8 H (by rw [c8]; decide) y z
        · rw [if_neg c8]
          by_cases c9 : (y &&& (15 : Int32)) = (9 : Int32)
          · rw [if_pos c9]
            exact ch_9 H (by rw [c9]; decide) y z
          · rw [if_neg c9]
            by_cases c10 : (y &&& (15 : Int32)) = (10 : Int32)
            · rw [if_pos c10]
              exact ch_10 H (by rw [c10]; decide) y z
            · rw [if_neg c10]
              by_cases c11 : (y &&& (15 : Int32)) = (11 : Int32)
              · rw [if_pos c11]
                exact ch_11 H (by rw [c11]; decide) y z _
              · rw [if_neg c11]
                by_cases c12 : (y &&& (15 : Int32)) = (12 : Int32)
                · rw [if_pos c12]
                  exact ch_12 H (by rw [c12]; decide) y z
                · rw [if_neg c12]
                  by_cases c13 : (y &&& (15 : Int32)) = (13 : Int32)
                  · rw [if_pos c13]
                    exact ch_13 H (by rw [c13]; decide) y z
                  · rw [if_neg c13]
                    exact ch_14 H y z
  · rw [if_neg c]
    refine ch_5 H (fun q => ?_) y z ?_
    · rw [w_leI, show (13 : Int32).toInt = 13 from by decide] at q
      rw [w_leI, show (6 : Int32).toInt = 6 from by decide] at c
      omega
    · by_cases c4 : (4 : Int32) ≤ (y &&& (15 : Int32))
      · rw [if_pos c4]
        exact lo_1 z (n := 600) (by omega) (by omega)
      · rw [if_neg c4]
        obtain ⟨a, e, b1, b2⟩ := lo_1 z (n := 90) (by omega) (by omega)
        exact ⟨a, e, b1, by omega⟩
end A
