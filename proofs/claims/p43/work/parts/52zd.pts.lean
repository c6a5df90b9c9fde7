/-! the heating curve's points -/
theorem pf_l {x : SK} {p : Int32} {c : Nat} (hc : x.2.2 = nI c) (h6 : c ≤ 6) : ∀ fu i, i ≤ c → c - i < fu → (∀ k, k < i → (x.1 k).toInt < p.toInt) → ∃ P, L3_placeFor_2 x p fu i = P ∧ P ≤ c ∧ (∀ k, k < P → (x.1 k).toInt < p.toInt) ∧ (P < c → p.toInt ≤ (x.1 P).toInt) := by
  intro fu
  induction fu with
  | zero => intro i _ h; exact absurd h (by omega)
  | succ fu ih =>
    intro i h1 h2 h3
    unfold L3_placeFor_2
    by_cases c1 : x.2.2 ≤ nI i
    · rw [if_pos c1]
      rw [hc, w_leI, nI_toInt (by omega), nI_toInt (by omega)] at c1
      exact ⟨i, rfl, h1, h3, fun h => by omega⟩
    · rw [if_neg c1]
      rw [hc, w_leI, nI_toInt (by omega), nI_toInt (by omega)] at c1
      rw [if_neg (by omega)]
      by_cases c2 : p ≤ x.1 i
      · rw [if_pos c2]
        exact ⟨i, rfl, h1, h3, fun _ => w_leI.mp c2⟩
      · rw [if_neg c2]
        rw [w_leI] at c2
        refine ih (i + 1) (by omega) (by omega) (fun k hk => ?_)
        by_cases e : k = i
        · subst e
          omega
        · exact h3 k (by omega)
theorem pf_e {x : SK} {p : Int32} {c : Nat} (hc : x.2.2 = nI c) (h6 : c ≤ 6) : ∃ P, F3_placeFor x p = nI P ∧ P ≤ c ∧ (∀ k, k < P → (x.1 k).toInt < p.toInt) ∧ (P < c → p.toInt ≤ (x.1 P).toInt) := by
  obtain ⟨P, e, h⟩ := pf_l (x := x) (p := p) hc h6 7 0 (by omega) (by omega) (fun k hk => absurd hk (by omega))
  refine ⟨P, ?_, h⟩
  unfold F3_placeFor K3_placeFor_1
  rw [e]
/-- at a point's own temperature the curve answers that point's supply -/
theorem su_at {x : SK} {p : Int32} {c P : Nat} (hc : x.2.2 = nI c) (h6 : c ≤ 6) (hP : P < c) (hl : ∀ k, k < P → (x.1 k).toInt < p.toInt) (hp : x.1 P = p) : F3_supplyAt x p = x.2.1 P := by
  obtain ⟨Q, eQ, q1, q2, q3⟩ := pf_e (x := x) (p := p) hc h6
  have e : Q = P := by
    rcases Nat.lt_trichotomy Q P with g | g | g
    · have a1 := hl Q g
      have a2 := q3 (by omega)
      omega
    · exact g
    · have a1 := q2 P g
      rw [hp] at a1
      omega
  subst e
  unfold F3_supplyAt
  rw [eQ, hc, if_neg (fun q => by have := (nI_eq (by omega) (by omega)).mp q; omega), el_in (show Q < 6 by omega) (by decide), el_in (show Q < 6 by omega) (by decide)]
  by_cases c0 : nI Q = (0 : Int32)
  · rw [if_pos c0]
  · rw [if_neg c0, if_pos hp]
/-- moving up leaves what is below the place -/
theorem rp_o {x : SS} {i v : Int32} {j : Nat} (h : ¬ i.toNatClampNeg = j) : F10_replace 6 x i v j = x j := by
  unfold F10_replace
  split
  · rfl
  · split
    · rfl
    · unfold upd
      rw [if_neg (fun e => h e.symm)]
theorem mu_k (K : SK) (P : Nat) (hP : P < 2 ^ 30) : ∀ (fu : Nat) (i : Int32) (a b : SS), (i.toInt - (nI P).toInt).toNat < fu → ∀ j, j < P → (L3_moveUpFrom_5 K (nI P) fu i a b).2.1 j = a j := by
  intro fu
  induction fu with
  | zero => intro i a b h; exact absurd h (by omega)
  | succ fu ih =>
    intro i a b hm j hj
    unfold L3_moveUpFrom_5
    by_cases c : i ≤ nI P
    · rw [if_pos c]
    · rw [if_neg c]
      unfold K3_moveUpFrom_1 K3_moveUpFrom_2
      rw [ih _ _ _ (w_dec c hm) j hj]
      refine rp_o ?_
      rw [w_leI, nI_toInt (by omega)] at c
      unfold Int32.toNatClampNeg
      omega
section A
variable {u u1 : PlS} {o k : Nat} {h : Nat → PlS} {r : Prop}
theorem oo_c {x : Int32} (h1 : -300 ≤ x.toInt) (h2 : x.toInt ≤ 400) (u : PlS) : F10_supply u x = F3_supplyAt (pK u) x := by
  unfold F10_supply
  exact if_pos (oo_in h1 h2)
/-- a point put in: its supply is answered, the number stays within -/
theorem put_ok {K : SK} (hK : iK K) {p s : Int32} (hr : F3_hasRoomFor K p = true) : iK (F3_put K p s) ∧ F3_supplyAt (F3_put K p s) p = s := by
  obtain ⟨c, ec, hcl, ect⟩ := nat_n (x := K.2.2) (by have := hK.1; omega)
  have hk1 := hK.1
  have hk2 := hK.2
  obtain ⟨P, eP, p1, p2, p3⟩ := pf_e (x := K) (p := p) ec (by omega)
  unfold F3_put
  by_cases ch : F3_has K p = true
  · rw [if_pos ch]
    have h2 := ch
    unfold F3_has at h2
    rw [eP, ec] at h2
    by_cases c1 : nI c ≤ nI P
    · rw [if_pos c1] at h2
      cases h2
    · rw [if_neg c1] at h2
      have hlt : P < c := by
        have : ¬ c ≤ P := fun q => c1 ((nI_leI (by omega) (by omega)).mpr q)
        omega
      rw [el_in (show P < 6 by omega) (by decide)] at h2
      have hp : K.1 P = p := by
        by_cases e : K.1 P = p
        · exact e
        · rw [if_neg e] at h2
          cases h2
      unfold K3_put_1
      rw [eP, rp_in (show P < 6 by omega) (by decide)]
      refine ⟨hK, ?_⟩
      rw [su_at (x := (K.1, upd K.2.1 P s, K.2.2)) (c := c) (P := P) ec (by omega) hlt p2 hp]
      exact upd_at _ _ _
  · rw [if_neg ch]
    have h5 : c ≤ 5 := by
      unfold F3_hasRoomFor at hr
      by_cases e : K.2.2 < (6 : Int32)
      · rw [w_ltI, show (6 : Int32).toInt = 6 from by decide] at e
        omega
      · rw [if_neg e, if_neg ch] at hr
        cases hr
    have hz2 : (F3_moveUpFrom K (F3_placeFor K p)).2.2 = K.2.2 := rfl
    have hz1 : ∀ j, j < P → (F3_moveUpFrom K (F3_placeFor K p)).1 j = K.1 j := fun j hj => by
      rw [eP]
      unfold F3_moveUpFrom K3_moveUpFrom_3
      exact mu_k K P (by omega) _ _ _ _ (by omega) j hj
    unfold K3_put_2 K3_put_3 K3_put_4
    generalize F3_moveUpFrom K (F3_placeFor K p) = z at hz1 hz2 ⊢
    rw [eP, rp_in (show P < 6 by omega) (by decide), rp_in (show P < 6 by omega) (by decide), hz2, ec, nI_1]
    refine ⟨⟨by show 1 ≤ (nI (c + 1)).toInt; rw [nI_toInt (by omega)]; omega, by show (nI (c + 1)).toInt ≤ 6; rw [nI_toInt (by omega)]; omega⟩, ?_⟩
    rw [su_at (x := (upd z.1 P p, upd z.2.1 P s, nI (c + 1))) (c := c + 1) (P := P) rfl (by omega) (by omega) (fun k hk => by
      show (upd z.1 P p k).toInt < p.toInt
      unfold upd
      rw [if_neg (by omega), hz1 k hk]
      exact p2 k hk) (upd_at _ _ _)]
    exact upd_at _ _ _
theorem ch_10 (H : Hv u o k h) (hr : ¬ r) (y z : Int32) : okc u k r (K12_changes_16 u u1 o k h y z (F10_addPoint u o k h ((F12_low z (701 : Int32)) - (300 : Int32)) ((150 : Int32) + (F12_low (z >>> ((6 : Int32) &&& 31)) (451 : Int32))))) := by
  obtain ⟨a, ea, ha⟩ : ∃ a : Nat, F12_low z (701 : Int32) = nI a ∧ a < 701 := lo_in z (n := 701) (by omega) (by omega)
  obtain ⟨b, eb, hb⟩ : ∃ b : Nat, F12_low (z >>> ((6 : Int32) &&& 31)) (451 : Int32) = nI b ∧ b < 451 := lo_in _ (n := 451) (by omega) (by omega)
  have ev : (nI a - (300 : Int32)).toInt = (a : Int) - 300 := lo_m (m := 300) (by decide) (by omega) (by omega)
  have es : (150 : Int32) + nI b = nI (150 + b) := nI_add 150 b
  have g1 : F8_isOutdoor (nI a - (300 : Int32)) = true := oo_in (by omega) (by omega)
  have g2 : F3_isSupply (nI (150 + b)) = true := w_two.mpr ⟨by rw [nI_toInt (by omega), show (150 : Int32).toInt = 150 from by decide]; omega, by rw [nI_toInt (by omega), show (600 : Int32).toInt = 600 from by decide]; omega⟩
  unfold K12_changes_16
  rw [ea, eb, es]
  by_cases hroom : F3_hasRoomFor (pK u) (nI a - (300 : Int32)) = true
  · obtain ⟨k1, k2⟩ := put_ok (K := pK u) H.1.2.2.1 (s := nI (150 + b)) hroom
    have e : (F10_addPoint u o k h (nI a - (300 : Int32)) (nI (150 + b))).1 = (F3_put (pK u) (nI a - (300 : Int32)) (nI (150 + b))).2.2 ∧ cz u (uK u (F3_put (pK u) (nI a - (300 : Int32)) (nI (150 + b)))) k (F10_addPoint u o k h (nI a - (300 : Int32)) (nI (150 + b))) := by
      unfold F10_addPoint
      rw [if_pos g1, if_pos g2, if_pos hroom]
      unfold K10_addPoint_1 K10_addPoint_2
      exact ⟨rfl, rfl, (rec_ok H).2⟩
    obtain ⟨e1, e2⟩ := e
    generalize F10_addPoint u o k h (nI a - (300 : Int32)) (nI (150 + b)) = w at e1 e2 ⊢
    have q4 : F10_supply w.2.1 (nI a - (300 : Int32)) = nI (150 + b) := by
      rw [e2.1, oo_c (by omega) (by omega)]
      exact k2
    have n1 := k1.1
    have n2 := k1.2
    rw [← e1] at n1 n2
    rw [if_neg (show ¬ w.1 = (-3 : Int32) from fun q => by rw [q, show (-3 : Int32).toInt = -3 from by decide] at n1; omega), if_neg (show ¬ w.1 < (1 : Int32) by rw [w_ltI, show (1 : Int32).toInt = 1 from by decide]; omega), if_neg (show ¬ (6 : Int32) < w.1 by rw [w_ltI, show (6 : Int32).toInt = 6 from by decide]; omega), if_pos q4]
    exact okc_t (cz_H e2 (Iv_uK H.1 k1)) hr
  · have hz : F10_addPoint u o k h (nI a - (300 : Int32)) (nI (150 + b)) = ((-3 : Int32), (u, ((o, k), h))) := by
      unfold F10_addPoint
      rw [if_pos g1, if_pos g2]
      exact if_neg hroom
    generalize F10_addPoint u o k h (nI a - (300 : Int32)) (nI (150 + b)) = w at hz ⊢
    have q1 : w.1 = (-3 : Int32) := by rw [hz]
    have q3 : Hv w.2.1 w.2.2.1.1 w.2.2.1.2 w.2.2.2 := by rw [hz]; exact H
    rw [if_pos q1]
    exact okc_t q3 hr
theorem ch_11 (H : Hv u o k h) (hr : ¬ r) (y z x : Int32) : okc u k r (K12_changes_15 u u1 o k h y z (F10_removePoint u o k h x)) := by
  have hk1 := H.1.2.2.1.1
  have hk2 := H.1.2.2.1.2
  unfold K12_changes_15
  by_cases c1 : F3_has (pK u) x = true
  · by_cases c2 : (pK u).2.2 = (1 : Int32)
    · have hz : F10_removePoint u o k h x = ((-2 : Int32), (u, ((o, k), h))) := by
        unfold F10_removePoint
        rw [if_pos c1]
        exact if_pos c2
      generalize F10_removePoint u o k h x = w at hz ⊢
      have q1 : w.1 = (-2 : Int32) := by rw [hz]
      have q3 : Hv w.2.1 w.2.2.1.1 w.2.2.1.2 w.2.2.2 := by rw [hz]; exact H
      rw [if_neg (show ¬ w.1 = (-1 : Int32) by rw [q1]; decide), if_pos q1]
      exact okc_t q3 hr
    · have e : (F10_removePoint u o k h x).1 = (F3_drop (pK u) x).2.2 ∧ cz u (uK u (F3_drop (pK u) x)) k (F10_removePoint u o k h x) := by
        unfold F10_removePoint
        rw [if_pos c1, if_neg c2]
        unfold K10_removePoint_1 K10_removePoint_2
        exact ⟨rfl, rfl, (rec_ok H).2⟩
      obtain ⟨e1, e2⟩ := e
      have ed : (F3_drop (pK u) x).2.2 = (pK u).2.2 - (1 : Int32) := rfl
      have et : ((pK u).2.2 - (1 : Int32)).toInt = (pK u).2.2.toInt - 1 := ar_s32 (by rw [show (1 : Int32).toInt = 1 from by decide]; omega) (by rw [show (1 : Int32).toInt = 1 from by decide]; omega)
      have n0 : (pK u).2.2.toInt ≠ 1 := fun q => c2 (Int32.toInt_inj.mp (by rw [q]; decide))
      have n1 : 1 ≤ (F3_drop (pK u) x).2.2.toInt ∧ (F3_drop (pK u) x).2.2.toInt ≤ 6 := by rw [ed, et]; omega
      have hI := Iv_uK H.1 (K := F3_drop (pK u) x) n1
      rw [← e1] at n1
      generalize F10_removePoint u o k h x = w at e1 e2 n1 ⊢
      rw [if_neg (show ¬ w.1 = (-1 : Int32) from fun q => by rw [q, show (-1 : Int32).toInt = -1 from by decide] at n1; omega), if_neg (show ¬ w.1 = (-2 : Int32) from fun q => by rw [q, show (-2 : Int32).toInt = -2 from by decide] at n1; omega), if_neg (show ¬ w.1 < (1 : Int32) by rw [w_ltI, show (1 : Int32).toInt = 1 from by decide]; omega)]
      exact okc_t (cz_H e2 hI) hr
  · have hz : F10_removePoint u o k h x = ((-1 : Int32), (u, ((o, k), h))) := by
      unfold F10_removePoint
      exact if_neg c1
    generalize F10_removePoint u o k h x = w at hz ⊢
    have q1 : w.1 = (-1 : Int32) := by rw [hz]
    have q3 : Hv w.2.1 w.2.2.1.1 w.2.2.1.2 w.2.2.2 := by rw [hz]; exact H
    rw [if_pos q1]
    exact okc_t q3 hr
end A
