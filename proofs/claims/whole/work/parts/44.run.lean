/-! what holds for an hour -/
def dI (S : SS) (W : SW) (p1 : Int32) : Int32 := (if (0 : Int32) < (F10_div ((((F7_valueOf S (15 : Int32)) - (F10_elementOr 24 (W.1) p1 (0 : Int32))) * (F7_valueOf S (16 : Int32))).toInt64) (10 : Int64)).toInt32 then (F10_div ((((F7_valueOf S (15 : Int32)) - (F10_elementOr 24 (W.1) p1 (0 : Int32))) * (F7_valueOf S (16 : Int32))).toInt64) (10 : Int64)).toInt32 else (0 : Int32))
def tI (S : SS) (W : SW) (K : SK) (p1 : Int32) : Int32 := (if (decide ((F10_elementOr 24 (W.2.1) p1 (1 : Int32)) = (0 : Int32))) = true then ((F3_supplyAt K (F10_elementOr 24 (W.1) p1 (0 : Int32))) + (F7_valueOf S (5 : Int32))) else (F3_supplyAt K (F10_elementOr 24 (W.1) p1 (0 : Int32))))
def cnS (S : SS) (W : SW) (K : SK) (h : Nat) : SC := (W.1 h, W.2.1 h, W.2.2 (W.2.1 h).toNatClampNeg, dI S W (nI h), tI S W K (nI h))
section R
variable {N : Int} {E : Nat → Int64} {P : SP} {A : SA} {T : Int32} {f : Nat → Int64} {S : SS} {W : SW} {K : SK} {c : Int32}
theorem dI_e (hs : rs S W K c f) {h : Nat} (hh : h < 24) : (dI S W (nI h)).toInt64 = F11_demandOf f h := by
  obtain ⟨h1, h2, -, -, -, -, hbS, hbW, -, -⟩ := hs
  have e15 : F11_set1 f 15 = (S 15).toInt64 := h1 15 (by omega)
  have e16 : F11_set1 f 16 = (S 16).toInt64 := h1 16 (by omega)
  have b15 := hbS 15 (by omega)
  have b16 := hbS 16 (by omega)
  have bo := hbW.1 h hh
  have e1 : (S 15 - W.1 h).toInt = (S 15).toInt - (W.1 h).toInt := ar_s32 (by omega) (by omega)
  have b1 := ar_mul (a := (S 15).toInt - (W.1 h).toInt) (b := (S 16).toInt) (A := 20400) (B := 20000) (by omega) (by omega) (by omega) (by omega)
  have e2 : ((S 15 - W.1 h) * S 16).toInt = ((S 15).toInt - (W.1 h).toInt) * (S 16).toInt := by
    rw [ar_m32, e1] <;> rw [e1] <;> omega
  have eX : F10_div (((S 15 - W.1 h) * S 16).toInt64) 10 = F11_div ((F11_set1 f 15 - f (17 + h)) * F11_set1 f 16) 10 := by
    rw [e15, e16, h2 h hh, sb_64 (by omega) (by omega), ml_64 (by rw [e1]; omega) (by rw [e1]; omega), div_e (by decide)]
  have eT : (F10_div (((S 15 - W.1 h) * S 16).toInt64) 10).toInt = ((S 15).toInt - (W.1 h).toInt) * (S 16).toInt / 10 := by
    rw [div_e (by decide), ar_div (by decide), Int32.toInt_toInt64, e2]
    rfl
  have b2 := ar_dv (b := 10) b1.1 b1.2
  unfold dI F11_demandOf
  rw [vo_15, vo_16, el_in hh (by decide), ← eX]
  generalize F10_div (((S 15 - W.1 h) * S 16).toInt64) 10 = X at eT
  rw [← eT] at b2
  have n : X.toInt32.toInt = X.toInt := ar_n (by omega) (by omega)
  have m1 : (0 : Int32) < X.toInt32 ↔ 0 < X.toInt := by
    rw [w_ltI, n, show (0 : Int32).toInt = 0 from by decide]
  by_cases c1 : 0 < X.toInt
  · rw [if_pos (m1.mpr c1), if_pos (l_0le.mpr (by omega))]
    exact (ar_e n.symm).symm
  · rw [if_neg (fun e => c1 (m1.mp e))]
    by_cases c2 : 0 ≤ X.toInt
    · rw [if_pos (l_0le.mpr c2)]
      exact Int64.toInt_inj.mp (by rw [Int32.toInt_toInt64, show (0 : Int32).toInt = 0 from by decide]; omega)
    · rw [if_neg (fun e => c2 (l_0le.mp e))]
      decide
theorem tI_e (x0 : MoN) (hs : rs S W K c f) {h : Nat} (hh : h < 24) : (tI S W K (nI h)).toInt64 = F11_targetOf x0 f h ∧ -2000000 ≤ (tI S W K (nI h)).toInt ∧ (tI S W K (nI h)).toInt ≤ 2000000 := by
  obtain ⟨h1, h2, h3, -, hK, -, hbS, hbW, hbK, -⟩ := hs
  have b5 := hbS 5 (by omega)
  have e5 : F11_set1 f 5 = (S 5).toInt64 := h1 5 (by omega)
  obtain ⟨g1, g2, g3⟩ := sup_e x0 hK hbK (hbW.1 h hh)
  have hz : f (41 + h) = 0 ↔ W.2.1 h = 0 := mn_c (h3 h hh) (by decide)
  unfold tI F11_targetOf
  rw [vo_5, el_in hh (by decide), el_in hh (by decide), h2 h hh, g1, e5]
  by_cases c1 : W.2.1 h = 0
  · rw [if_pos (decide_eq_true c1), if_pos (hz.mpr c1), ad_64 (by omega) (by omega), ar_a32 (by omega) (by omega)]
    exact ⟨rfl, by omega, by omega⟩
  · rw [if_neg (by rw [decide_eq_false c1]; decide), if_neg (fun e => c1 (hz.mp e)), Int64.add_zero]
    exact ⟨rfl, by omega, by omega⟩
theorem cnd_e (hs : rs S W K c f) {B : SB} {C : SC} {h : Nat} (hh : h < 24) : F5_readConditions (S, W, K, B, P, A, C, T) (nI h) = (S, W, K, B, P, A, cnS S W K h, T) := by
  have bt := hs.2.2.2.2.2.2.2.1.2.1 h hh
  show (S, W, K, B, P, A, (F10_elementOr 24 W.1 (nI h) 0, F10_elementOr 24 W.2.1 (nI h) 1, F10_elementOr 3 W.2.2 (F10_elementOr 24 W.2.1 (nI h) 1) 0, dI S W (nI h), tI S W K (nI h)), T) = _
  rw [el_in hh (by decide), el_in hh (by decide), el_i (by decide) bt.1 (by omega)]
  rfl
/-- a minute, on both sides -/
theorem min_rel (x0 : MoN) (hs : rs S W K c f) (hd : rd N E P A T f) (hN0 : 0 ≤ N) (hN : N < 1000000000) (hT : 0 ≤ T.toInt) (hT2 : T.toInt < 1000000000) {C : SC} (hC : C = cnS S W K (nT (f 91) / 60 % 24)) :
    ∃ E' P' A', F5_simulateMinute (S, W, K, (E, c), P, A, C, T) = (S, W, K, (E', c), P', A', C, T + 1) ∧ rd (N + 3) E' P' A' (T + 1) (F11_minute x0 f) ∧ rs S W K c (F11_minute x0 f) := by
  have hh : nT (f 91) / 60 % 24 < 24 := Nat.mod_lt _ (by omega)
  have hrs : rs S W K c (F11_minute x0 f) := rs_of hs (fun j hj => min_o x0 f j (by omega))
  unfold F11_minute K11_minute_1 K11_minute_2 K11_minute_3 K11_minute_4 at hrs ⊢
  generalize nT (f 91) / 60 % 24 = h at hh hC hrs ⊢
  obtain ⟨t1, t2, t3⟩ := tI_e x0 hs hh
  have dd := dI_e hs hh
  have ei := hs.2.2.1 h hh
  have eo := hs.2.1 h hh
  have bo := hs.2.2.2.2.2.2.2.1.1 h hh
  have bt := hs.2.2.2.2.2.2.2.1.2.1 h hh
  have c1 : C.1 = W.1 h := by rw [hC]; rfl
  have c2 : C.2.1 = W.2.1 h := by rw [hC]; rfl
  have c3 : C.2.2.1 = W.2.2 (W.2.1 h).toNatClampNeg := by rw [hC]; rfl
  have c4 : C.2.2.2.1 = dI S W (nI h) := by rw [hC]; rfl
  have c5 : C.2.2.2.2 = tI S W K (nI h) := by rw [hC]; rfl
  clear hC
  -- the end of defrosting
  have gA := mn_A x0 hd hN0 (s := S 11) (hs.1 11 (by omega))
  have sA : rs S W K c (B11_minute_52 x0 f) := rs_of hs (fun j hj => min_b x0 f j (Or.inl hj))
  generalize B11_minute_52 x0 f = f1 at gA sA hrs ⊢
  -- the rule
  have gB := mn_B x0 sA gA (C := C) (tg := F11_targetOf x0 f h) (is := f (41 + h)) (by rw [c5]; exact t1) (by rw [c2]; exact ei) (by rw [c5]; exact ⟨t2, t3⟩)
  have r1 := rul_l x0 f1 (F11_targetOf x0 f h) (f (41 + h))
  have r2 := w_nat (rul_n x0 f1 (F11_targetOf x0 f h) (f (41 + h)))
  generalize F11_rule x0 f1 (F11_targetOf x0 f h) (f (41 + h)) = q at gB r1 r2 hrs ⊢
  generalize q.toNatClampNeg = r at r1 r2 hrs ⊢
  subst r2
  have gC := mn_C gA hT hN0 (by omega) r1
  have sC : rs S W K c (F11_decides f1 r) := rs_of sA (fun j hj => dec_o f1 r1 j (Or.inl hj))
  generalize F11_decides f1 r = f2 at gC sC hrs ⊢
  -- the heat
  have ep : f2 (65 + nT (f (41 + h))) = C.2.2.1.toInt64 := by
    have e : nT (f (41 + h)) = (W.2.1 h).toNatClampNeg := by
      rw [ei]
      unfold nT Int32.toNatClampNeg
      rw [Int32.toInt_toInt64]
    rw [e, c3]
    refine sC.2.2.2.1 _ ?_
    unfold Int32.toNatClampNeg
    omega
  obtain ⟨E1, P1, A1, eD, gD⟩ := mn_D x0 sC gC (by omega) (C := C) (x := f (17 + h)) (is := f (41 + h)) (by rw [c1]; exact eo.symm) (by rw [c1]; exact bo) ep
  have sD : rs S W K c (F11_produces x0 f2 (f (17 + h)) (f (41 + h))) := rs_of sC (fun j hj => pro_o x0 f2 _ _ j (Or.inl hj))
  generalize F11_produces x0 f2 (f (17 + h)) (f (41 + h)) = f3 at gD sD hrs ⊢
  -- what is drawn
  obtain ⟨E2, eE, gE⟩ := mn_E sD gD (F11_demandOf f h)
  have sE : rs S W K c (F11_draws f3 (F11_demandOf f h)) := rs_of sD (fun j hj => draws_o f3 _ j (Or.inl hj))
  -- the layers
  obtain ⟨eF, gF⟩ := mn_F x0 sE gE
  have gG := mn_G x0 gF (by omega) hT (by omega) f f1 f2 f3 (F11_draws f3 (F11_demandOf f h))
  refine ⟨_, _, _, ?_, rd_m gG (by omega), hrs⟩
  have e1 : F5_simulateMinute (S, W, K, (E, c), P, A, C, T) = K5_simulateMinute_7 (S, W, K, (E, c), P, A, C, T) (F6_endDefrosting P (F7_valueOf S 11)) (F6_obey (F6_endDefrosting P (F7_valueOf S 11)) (F6_decide (F6_endDefrosting P (F7_valueOf S 11)) S (E, c) C)) (F6_noteStart (F6_obey (F6_endDefrosting P (F7_valueOf S 11)) (F6_decide (F6_endDefrosting P (F7_valueOf S 11)) S (E, c) C)) T (bI (decide (F6_decide (F6_endDefrosting P (F7_valueOf S 11)) S (E, c) C = (11 : Int32))))) (F0_countMinute A (F6_decide (F6_endDefrosting P (F7_valueOf S 11)) S (E, c) C)) (if (F6_noteStart (F6_obey (F6_endDefrosting P (F7_valueOf S 11)) (F6_decide (F6_endDefrosting P (F7_valueOf S 11)) S (E, c) C)) T (bI (decide (F6_decide (F6_endDefrosting P (F7_valueOf S 11)) S (E, c) C = (11 : Int32))))).1 = (1 : Int32) then F5_produce (S, W, K, (E, c), (F6_noteStart (F6_obey (F6_endDefrosting P (F7_valueOf S 11)) (F6_decide (F6_endDefrosting P (F7_valueOf S 11)) S (E, c) C)) T (bI (decide (F6_decide (F6_endDefrosting P (F7_valueOf S 11)) S (E, c) C = (11 : Int32))))), (F0_countMinute A (F6_decide (F6_endDefrosting P (F7_valueOf S 11)) S (E, c) C)), C, T) else (if (F6_noteStart (F6_obey (F6_endDefrosting P (F7_valueOf S 11)) (F6_decide (F6_endDefrosting P (F7_valueOf S 11)) S (E, c) C)) T (bI (decide (F6_decide (F6_endDefrosting P (F7_valueOf S 11)) S (E, c) C = (11 : Int32))))).1 = (2 : Int32) then F5_defrost (S, W, K, (E, c), (F6_noteStart (F6_obey (F6_endDefrosting P (F7_valueOf S 11)) (F6_decide (F6_endDefrosting P (F7_valueOf S 11)) S (E, c) C)) T (bI (decide (F6_decide (F6_endDefrosting P (F7_valueOf S 11)) S (E, c) C = (11 : Int32))))), (F0_countMinute A (F6_decide (F6_endDefrosting P (F7_valueOf S 11)) S (E, c) C)), C, T) else (S, W, K, (E, c), (F6_noteStart (F6_obey (F6_endDefrosting P (F7_valueOf S 11)) (F6_decide (F6_endDefrosting P (F7_valueOf S 11)) S (E, c) C)) T (bI (decide (F6_decide (F6_endDefrosting P (F7_valueOf S 11)) S (E, c) C = (11 : Int32))))), (F0_countMinute A (F6_decide (F6_endDefrosting P (F7_valueOf S 11)) S (E, c) C)), C, T))) := rfl
  rw [vo_11, gB, eD] at e1
  refine e1.trans ?_
  have e2 : ∀ a b d e, K5_simulateMinute_7 (S, W, K, (E, c), P, A, C, T) a b d e (S, W, K, (E1, c), P1, A1, C, T) = (S, W, K, F1_conduct (F1_rise (F1_lose (F1_draw (E1, c) (C.2.2.2.1.toInt64)).2 (F7_valueOf S 13)).2) (F7_valueOf S 14), F6_countMinute P1, (A1.1, A1.2.1, A1.2.2.1, A1.2.2.2.1, A1.2.2.2.2.1, A1.2.2.2.2.2.1, A1.2.2.2.2.2.2.1 + (F1_draw (E1, c) (C.2.2.2.1.toInt64)).1, A1.2.2.2.2.2.2.2.1 + (C.2.2.2.1.toInt64 - (F1_draw (E1, c) (C.2.2.2.1.toInt64)).1), A1.2.2.2.2.2.2.2.2.1 + (F1_lose (F1_draw (E1, c) (C.2.2.2.1.toInt64)).2 (F7_valueOf S 13)).1, A1.2.2.2.2.2.2.2.2.2.1, A1.2.2.2.2.2.2.2.2.2.2), C, T + 1) := fun _ _ _ _ => rfl
  have e3 : (F1_draw (E1, c) (F11_demandOf f h)).2 = (E2, c) := congrArg Prod.snd eE
  rw [e2, vo_13, vo_14, c4, dd, e3]
  generalize F1_conduct (F1_rise (F1_lose (E2, c) (S 13)).2) (S 14) = z at eF
  have ez : z = (z.1, c) := Prod.ext rfl eF
  exact congrArg (fun q => (S, W, K, q, F6_countMinute P1, _, C, T + 1)) ez
/-- so many minutes, on both sides -/
theorem adv_l (x0 : MoN) (u : PlS) (p1 : Nat) : ∀ fu i E P A C T f, i ≤ p1 → p1 - i < fu → rs S W K c f → rd (1000 + 3 * T.toInt) E P A T f → 0 ≤ T.toInt → T.toInt + ((p1 - i : Nat) : Int) ≤ 110000 → (i ≠ 0 → nT (f 91) % 60 ≠ 0 → C = cnS S W K (nT (f 91) / 60 % 24)) →
    ∃ E' P' A' C' T', (L5_advance_2 u p1 fu i (S, W, K, (E, c), P, A, C, T)).2 = (S, W, K, (E', c), P', A', C', T') ∧ rs S W K c (Nat.repeat (F11_minute x0) (p1 - i) f) ∧ rd (1000 + 3 * T'.toInt) E' P' A' T' (Nat.repeat (F11_minute x0) (p1 - i) f) ∧ T'.toInt = T.toInt + ((p1 - i : Nat) : Int) := by
  intro fu
  induction fu with
  | zero => intro i E P A C T f _ h; exact absurd h (by omega)
  | succ fu ih =>
    intro i E P A C T f h1 h2 hs hd hT hM hC
    unfold L5_advance_2
    by_cases c1 : p1 ≤ i
    · rw [if_pos c1, show p1 - i = 0 by omega]
      exact ⟨E, P, A, C, T, rfl, hs, hd, by omega⟩
    · rw [if_neg c1]
      have h91 := rg_12 hd
      have hh : nT (f 91) / 60 % 24 < 24 := Nat.mod_lt _ (by omega)
      have q60 := mn_60 h91 hT
      have q24 := mn_24 h91 hT
      have eB : B5_advance_7 u p1 i (S, W, K, (E, c), P, A, C, T) = (S, W, K, (E, c), P, A, cnS S W K (nT (f 91) / 60 % 24), T) := by
        have e0 : F5_readConditions (S, W, K, (E, c), P, A, C, T) (T / 60 - T / 60 / 24 * 24) = (S, W, K, (E, c), P, A, cnS S W K (nT (f 91) / 60 % 24), T) := by
          rw [q24]
          exact cnd_e hs hh
        unfold B5_advance_7
        by_cases c2 : i = 0
        · rw [if_pos c2]
          exact e0
        · rw [if_neg c2]
          by_cases c3 : T - T / 60 * 60 = 0
          · rw [if_pos c3]
            exact e0
          · rw [if_neg c3]
            rw [q60] at c3
            rw [hC c2 (fun e => c3 (by rw [e]; rfl))]
      rw [eB]
      unfold K5_advance_3 K5_advance_4
      obtain ⟨E1, P1, A1, e1, d1, s1⟩ := min_rel x0 hs hd (by omega) (by omega) hT (by omega) (C := cnS S W K (nT (f 91) / 60 % 24)) rfl
      rw [e1]
      have eT : (T + 1).toInt = T.toInt + 1 := ar_a32 (by rw [show (1 : Int32).toInt = 1 from by decide]; omega) (by rw [show (1 : Int32).toInt = 1 from by decide]; omega)
      obtain ⟨E', P', A', C', T', g1, g2, g3, g4⟩ := ih (i + 1) E1 P1 A1 (cnS S W K (nT (f 91) / 60 % 24)) (T + 1) (F11_minute x0 f) (by omega) (by omega) s1 (rd_m d1 (by rw [eT]; omega)) (by rw [eT]; omega) (by rw [eT]; omega) (fun _ h60 => by
        have n1 : nT (F11_minute x0 f 91) = nT (f 91) + 1 := by
          have a1 := rg_12 d1
          unfold nT
          rw [a1, h91, Int32.toInt_toInt64, Int32.toInt_toInt64, eT]
          omega
        rw [n1] at h60 ⊢
        rw [show (nT (f 91) + 1) / 60 = nT (f 91) / 60 by omega])
      have hk : p1 - i = (p1 - (i + 1)) + 1 := by omega
      rw [hk, w_rep]
      exact ⟨E', P', A', C', T', g1, g2, g3, by rw [g4, eT]; omega⟩
end R
/-- an advance keeps the relation -/
theorem adv_rel (x0 : MoN) {M : Int} {u : PlS} {f : Nat → Int64} (h : rl M u f) {n : Nat} (hn : M + (n : Int) ≤ 110000) : rl (M + (n : Int)) (F5_advance u n) (F11_minutes x0 f n) ∧ pS (F5_advance u n) = pS u := by
  obtain ⟨S, W, K, ⟨E, c⟩, P, A, C, T⟩ := u
  obtain ⟨hs, hd, hT, hM⟩ := h
  have hT : 0 ≤ T.toInt := hT
  have hM : T.toInt ≤ M := hM
  obtain ⟨E', P', A', C', T', e, g1, g2, g3⟩ := adv_l x0 (S, W, K, (E, c), P, A, C, T) n (n + 1) 0 E P A C T f (by omega) (by omega) hs hd hT (by omega) (fun h0 => absurd rfl h0)
  have e' : F5_advance (S, W, K, (E, c), P, A, C, T) n = (S, W, K, (E', c), P', A', C', T') := e
  rw [e', minutes_e]
  have g3 : T'.toInt = T.toInt + (n : Int) := g3
  exact ⟨⟨g1, g2, show 0 ≤ T'.toInt by omega, show T'.toInt ≤ M + (n : Int) by omega⟩, rfl⟩
theorem rl_m {M M' : Int} {u : PlS} {f : Nat → Int64} (h : rl M u f) (hm : M ≤ M') : rl M' u f := ⟨h.1, h.2.1, h.2.2.1, Int.le_trans h.2.2.2 hm⟩
