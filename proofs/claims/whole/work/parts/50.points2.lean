section K
variable {u : PlS} {o k : Nat} {h : Nat → PlS} {st : ST} {x : MoN} {f : Nat → Int64} {g : SS}
/-- other points, all else as it was -/
theorem rl_K (r : rl 100000 u f) {K' : SK} {f' : Nat → Int64} (hK : rK K' f') (hb : bK K') (e : ∀ j, ¬ (68 ≤ j ∧ j ≤ 80) → f' j = f j) : rl 100000 (pS u, pW u, K', pB u, pP u, pA u, pC u, pT u) f' := by
  obtain ⟨⟨h1, h2, h3, h4, h5, h6, h7, h8, h9, h10⟩, d, t⟩ := r
  exact ⟨⟨fun j hj => (e _ (by omega)).trans (h1 j hj), fun j hj => (e _ (by omega)).trans (h2 j hj), fun j hj => (e _ (by omega)).trans (h3 j hj), fun j hj => (e _ (by omega)).trans (h4 j hj), hK, (e _ (by omega)).trans h6, h7, h8, hb, h10⟩, rd_of d (fun j a b => e j (by omega)), t⟩
theorem addPoint_r (R : rM u o k h st x f g) (p1 p2 : Int32) : (F10_addPoint u o k h p1 p2).1 = (F11_addPoint x f p1 p2).1 ∧ rM (F10_addPoint u o k h p1 p2).2.1 (F10_addPoint u o k h p1 p2).2.2.1.1 (F10_addPoint u o k h p1 p2).2.2.1.2 (F10_addPoint u o k h p1 p2).2.2.2 st (F11_addPoint x f p1 p2).2.1 (F11_addPoint x f p1 p2).2.2 g := by
  unfold F10_addPoint F11_addPoint
  rw [k_outdoor, k_supply]
  by_cases c1 : F11_in p1.toInt64 (-300) 400 = true
  · rw [if_pos c1, if_pos c1]
    have b1 := in_iff.mp c1
    rw [show (-300 : Int64).toInt = -300 from by decide, show (400 : Int64).toInt = 400 from by decide] at b1
    by_cases c2 : F11_in p2.toInt64 150 600 = true
    · rw [if_pos c2, if_pos c2]
      have b2 := in_iff.mp c2
      rw [show (150 : Int64).toInt = 150 from by decide, show (600 : Int64).toInt = 600 from by decide] at b2
      obtain ⟨r1, r2, r3⟩ := rM_rec R
      have hK := R.1.1.2.2.2.2.1
      have hbK := R.1.1.2.2.2.2.2.2.2.2.1
      have hK1 := r1.1.2.2.2.2.1
      obtain ⟨c, ec, hc, -⟩ := cv_n hK.2.1
      have h6 : c ≤ 6 := by have := hK.2.2.1; omega
      have h1 : 1 ≤ c := by have := hK.2.1; omega
      obtain ⟨P, eP, hP1, hP2, hP3⟩ := pf_e (p := p1) ec h6
      have f68 : (F11_records x f).2.2 68 = f 68 := rec_o x f 68 (by omega)
      unfold F3_hasRoomFor
      rcases hs_e hK ec hc eP hP1 hP2 hP3 with ⟨a1, a2, a3, j, a4, a5, a6⟩ | ⟨a1, a2, a3, a4⟩
      · -- the place is there
        rw [a1, a5, if_pos (show (0 : Int32) ≤ nI j from Int32.not_lt.mp (w_nn (by omega)))]
        have e1 : (if (pK u).2.2 < (6 : Int32) then true else (if true = true then true else false)) = true := by
          split <;> rfl
        rw [if_pos e1]
        have a7 : (F11_records x f).2.2 (69 + 2 * j) = p1.toInt64 := (rec_o x f _ (by omega)).trans a6
        have hput : F3_put (pK u) p1 p2 = ((pK u).1, upd (pK u).2.1 P p2, (pK u).2.2) := by
          unfold F3_put K3_put_1
          rw [a1, if_pos rfl, eP, rp_in (by omega) (by decide)]
        unfold K10_addPoint_1 K10_addPoint_2 K11_addPoint_1
        rw [hput, a5, nI_clamp (by omega)]
        refine ⟨?_, r3 (rl_K r1 (rK_r hK1 hc a2 a3 a4 a7 p2) (fun i hi => ?_) (fun i hi => ?_)) (fun i hi => ?_)⟩
        · show (pK u).2.2 = ((F11_records x f).2.2 68).toInt32
          rw [hK1.1, Int32.toInt32_toInt64]
        · refine ⟨(hbK i hi).1, ?_⟩
          exact up_b (s := (pK u).2.1) (hbK i hi).2 b2
        · exact (w_ro (show i ≠ 69 + 2 * j + 1 by omega)).trans (w_ro (show i ≠ 69 + 2 * j by omega))
        · exact (w_ro (show i ≠ 69 + 2 * j + 1 by omega)).trans (w_ro (show i ≠ 69 + 2 * j by omega))
      · rw [a1, a2, if_neg (show ¬ (0 : Int32) ≤ -1 by decide)]
        have e6 : f 68 = 6 ↔ (pK u).2.2 = 6 := mn_c hK.1 (by decide)
        by_cases c3 : (pK u).2.2 = 6
        · have n1 : ¬ (if (pK u).2.2 < (6 : Int32) then true else (if false = true then true else false)) = true := by
            rw [c3]
            decide
          rw [if_neg n1, if_pos (e6.mpr c3)]
          exact ⟨rfl, R⟩
        · have h5 : c < 6 := by
            by_cases q : c = 6
            · rw [q] at ec
              exact absurd ec c3
            · omega
          have n1 : (pK u).2.2 < (6 : Int32) := by
            rw [w_ltI, ← hc, show (6 : Int32).toInt = 6 from by decide]
            omega
          have e1 : (if (pK u).2.2 < (6 : Int32) then true else (if false = true then true else false)) = true := if_pos n1
          rw [if_pos e1, if_neg (fun q => c3 (e6.mp q))]
          have hput : F3_put (pK u) p1 p2 = (upd (shU P c (pK u).1) P p1, upd (shU P c (pK u).2.1) P p2, nI (c + 1)) := by
            have em : F3_moveUpFrom (pK u) (F3_placeFor (pK u) p1) = (shU P c (pK u).1, shU P c (pK u).2.1, (pK u).2.2) := by
              unfold F3_moveUpFrom K3_moveUpFrom_3
              rw [eP, ec, mu_l (pK u) P _ c (pK u).1 (pK u).2.1 hP1 h5 (by rw [nI_toInt (by omega), nI_toInt (by omega)]; omega)]
            unfold F3_put
            rw [a1, if_neg (by decide), em]
            unfold K3_put_2 K3_put_3 K3_put_4
            rw [eP, rp_in (by omega) (by decide), rp_in (by omega) (by decide)]
            show (_, _, (pK u).2.2 + 1) = _
            rw [ec, nI_1]
          have n68 : nT ((F11_records x f).2.2 68) = c := by
            unfold nT
            rw [hK1.1, Int32.toInt_toInt64, ← hc]
            rfl
          have hn1 : ∀ j, j < c → (F11_records x f).2.2 (69 + 2 * j) ≠ p1.toInt64 := fun j hj => by
            rw [rec_o x f _ (by omega)]
            exact a3 j hj
          unfold K10_addPoint_1 K10_addPoint_2 K11_addPoint_2
          rw [hput, n68]
          have hr := rK_p hK1 ec hc hP1 hP2 a4 hn1 h5 p2
          refine ⟨?_, r3 (rl_K r1 hr (fun i hi => ?_) (fun i hi => ?_)) (fun i hi => ?_)⟩
          · have e := hr.1
            rw [w_ro (by omega), w_ro (by omega), w_rds] at e
            show nI (c + 1) = ((F11_records x f).2.2 68 + 1).toInt32
            rw [e]
            exact (Int32.toInt32_toInt64 _).symm
          · have hi : (i : Int) < (nI (c + 1)).toInt := hi
            rw [nI_toInt (by omega)] at hi
            show (-300 ≤ (upd (shU P c (pK u).1) P p1 i).toInt ∧ (upd (shU P c (pK u).1) P p1 i).toInt ≤ 400) ∧ (150 ≤ (upd (shU P c (pK u).2.1) P p2 i).toInt ∧ (upd (shU P c (pK u).2.1) P p2 i).toInt ≤ 600)
            by_cases d : i = P
            · rw [d, pk_us, pk_us]
              exact ⟨b1, b2⟩
            · rw [pk_un d, pk_un d]
              unfold shU
              by_cases d2 : P < i ∧ i ≤ c
              · rw [if_pos d2, if_pos d2]
                exact hbK (i - 1) (by omega)
              · rw [if_neg d2, if_neg d2]
                exact hbK i (by omega)
          · exact (w_ro (show i ≠ 69 + 2 * c + 1 by omega)).trans ((w_ro (show i ≠ 69 + 2 * c by omega)).trans (w_ro (show i ≠ 68 by omega)))
          · exact (w_ro (show i ≠ 69 + 2 * c + 1 by omega)).trans ((w_ro (show i ≠ 69 + 2 * c by omega)).trans (w_ro (show i ≠ 68 by omega)))
    · rw [if_neg c2, if_neg c2]
      exact ⟨rfl, R⟩
  · rw [if_neg c1, if_neg c1]
    exact ⟨rfl, R⟩
theorem removePoint_r (R : rM u o k h st x f g) (p1 : Int32) : (F10_removePoint u o k h p1).1 = (F11_removePoint x f p1).1 ∧ rM (F10_removePoint u o k h p1).2.1 (F10_removePoint u o k h p1).2.2.1.1 (F10_removePoint u o k h p1).2.2.1.2 (F10_removePoint u o k h p1).2.2.2 st (F11_removePoint x f p1).2.1 (F11_removePoint x f p1).2.2 g := by
  unfold F10_removePoint F11_removePoint
  have hK := R.1.1.2.2.2.2.1
  have hbK := R.1.1.2.2.2.2.2.2.2.2.1
  obtain ⟨r1, r2, r3⟩ := rM_rec R
  have hK1 := r1.1.2.2.2.2.1
  obtain ⟨c, ec, hc, -⟩ := cv_n hK.2.1
  have h6 : c ≤ 6 := by have := hK.2.2.1; omega
  have h1 : 1 ≤ c := by have := hK.2.1; omega
  obtain ⟨P, eP, hP1, hP2, hP3⟩ := pf_e (p := p1) ec h6
  rcases hs_e hK ec hc eP hP1 hP2 hP3 with ⟨a1, a2, a3, j, a4, a5, a6⟩ | ⟨a1, a2, a3, a4⟩
  · rw [a1, if_pos rfl, a5, if_pos (show (0 : Int32) ≤ nI j from Int32.not_lt.mp (w_nn (by omega)))]
    have e1 : f 68 = 1 ↔ (pK u).2.2 = 1 := mn_c hK.1 (by decide)
    by_cases c3 : (pK u).2.2 = 1
    · rw [if_pos c3, if_pos (e1.mpr c3)]
      exact ⟨rfl, R⟩
    · rw [if_neg c3, if_neg (fun q => c3 (e1.mp q))]
      have h2 : 2 ≤ c := by
        by_cases q : c = 1
        · rw [q] at ec
          exact absurd ec c3
        · omega
      have a7 : (F11_records x f).2.2 (69 + 2 * j) = p1.toInt64 := (rec_o x f _ (by omega)).trans a6
      have ec1 : (pK u).2.2 - 1 = nI (c - 1) := by
        rw [ec]
        exact pk_sub (b := 1) (by omega)
      have hdr : F3_drop (pK u) p1 = (shD P (c - 1) (pK u).1, shD P (c - 1) (pK u).2.1, nI (c - 1)) := by
        unfold F3_drop K3_drop_3
        rw [eP, ec1, md_l (pK u) p1 (c - 1) ec1 (by omega) _ P _ _ (by omega) (by rw [nI_toInt (by omega), nI_toInt (by omega)]; omega)]
      have n68 : nT ((F11_records x f).2.2 68 - 1) = c - 1 := by
        have e : ((F11_records x f).2.2 68 - 1).toInt = (c : Int) - 1 := by
          rw [hK1.1, ec, ar_s64, w_il (by omega)]
          · rfl
          · rw [w_il (by omega), show (1 : Int64).toInt = 1 from by decide]; omega
          · rw [w_il (by omega), show (1 : Int64).toInt = 1 from by decide]; omega
        unfold nT
        rw [e]
        omega
      unfold K10_removePoint_1 K10_removePoint_2 K11_removePoint_1
      rw [hdr, a5, nI_clamp (by omega), n68]
      have hr := rK_d hK1 ec hc h2 a2 a3 a4 a7 (f' := vp_updL (vp_updL (vp_updL (F11_records x f).2.2 68 ((F11_records x f).2.2 68 - 1)) (69 + 2 * j) ((F11_records x f).2.2 (69 + 2 * (c - 1)))) (69 + 2 * j + 1) (vp_updL (vp_updL (F11_records x f).2.2 68 ((F11_records x f).2.2 68 - 1)) (69 + 2 * j) ((F11_records x f).2.2 (69 + 2 * (c - 1))) (69 + 2 * (c - 1) + 1)))
        (by rw [w_ro (by omega), w_ro (by omega), w_rds])
        (fun hk => ⟨by rw [w_ro (by omega), w_rds], by rw [w_rds, w_ro (by omega), w_ro (by omega)]⟩)
        (fun i hi hij => ⟨by rw [w_ro (by omega), w_ro (by omega), w_ro (by omega)], by rw [w_ro (by omega), w_ro (by omega), w_ro (by omega)]⟩)
      refine ⟨?_, r3 (rl_K r1 hr (fun i hi => ?_) (fun i hi => ?_)) (fun i hi => ?_)⟩
      · have e := hr.1
        rw [w_ro (by omega), w_ro (by omega), w_rds] at e
        show nI (c - 1) = ((F11_records x f).2.2 68 - 1).toInt32
        rw [e]
        exact (Int32.toInt32_toInt64 _).symm
      · have hi : (i : Int) < (nI (c - 1)).toInt := hi
        rw [nI_toInt (by omega)] at hi
        show (-300 ≤ (shD P (c - 1) (pK u).1 i).toInt ∧ (shD P (c - 1) (pK u).1 i).toInt ≤ 400) ∧ (150 ≤ (shD P (c - 1) (pK u).2.1 i).toInt ∧ (shD P (c - 1) (pK u).2.1 i).toInt ≤ 600)
        unfold shD
        by_cases d2 : P ≤ i ∧ i < c - 1
        · rw [if_pos d2, if_pos d2]
          exact hbK (i + 1) (by omega)
        · rw [if_neg d2, if_neg d2]
          exact hbK i (by omega)
      · exact (w_ro (show i ≠ 69 + 2 * j + 1 by omega)).trans ((w_ro (show i ≠ 69 + 2 * j by omega)).trans (w_ro (show i ≠ 68 by omega)))
      · exact (w_ro (show i ≠ 69 + 2 * j + 1 by omega)).trans ((w_ro (show i ≠ 69 + 2 * j by omega)).trans (w_ro (show i ≠ 68 by omega)))
  · rw [a1, a2, if_neg (by decide), if_neg (by decide)]
    exact ⟨rfl, R⟩
end K
