/-! points: laid, and taken away -/
theorem pa_l {f : Nat → Int64} {p : Int32} {c : Nat} (hc : (f 68).toInt = (c : Int)) (h6 : c ≤ 6) : ∀ (fu i : Nat), i ≤ c → c - i < fu → (∀ j, j < i → f (69 + 2 * j) ≠ p.toInt64) → (L11_pointAt_2 f p fu i = -1 ∧ ∀ j, j < c → f (69 + 2 * j) ≠ p.toInt64) ∨ (∃ k, k < c ∧ L11_pointAt_2 f p fu i = nI k ∧ f (69 + 2 * k) = p.toInt64) := by
  intro fu
  induction fu with
  | zero => intro i _ h; exact absurd h (by omega)
  | succ fu ih =>
    intro i h1 h2 h3
    unfold L11_pointAt_2
    by_cases c1 : f 68 ≤ (nI i).toInt64
    · rw [if_pos c1]
      rw [w_leL, hc, w_il (by omega)] at c1
      exact Or.inl ⟨rfl, fun j hj => h3 j (by omega)⟩
    · rw [if_neg c1]
      rw [w_leL, hc, w_il (by omega)] at c1
      by_cases c2 : f (69 + 2 * i) = p.toInt64
      · rw [if_pos c2]
        exact Or.inr ⟨i, by omega, rfl, c2⟩
      · rw [if_neg c2]
        exact ih (i + 1) (by omega) (by omega) (cv_s h3 c2)
theorem w_64 {a b : Int32} : a.toInt64 = b.toInt64 ↔ a = b := mn_c rfl rfl
theorem ec_i {a b : Nat} {x : Int32} (ha : a < 2 ^ 31) (hb : b < 2 ^ 31) (h : x = nI a) : x.toInt = (a : Int) := by rw [h, nI_toInt ha]
section P
variable {K : SK} {f : Nat → Int64} {c P : Nat} {p : Int32}
/-- is it there: on both sides -/
theorem hs_e (h : rK K f) (ec : K.2.2 = nI c) (hc : (c : Int) = K.2.2.toInt) (eP : F3_placeFor K p = nI P) (hP1 : P ≤ c) (hP2 : ∀ k, k < P → (K.1 k).toInt < p.toInt) (hP3 : P < c → p.toInt ≤ (K.1 P).toInt) :
    (F3_has K p = true ∧ P < c ∧ K.1 P = p ∧ ∃ k, k < c ∧ F11_pointAt f p = nI k ∧ f (69 + 2 * k) = p.toInt64) ∨ (F3_has K p = false ∧ F11_pointAt f p = -1 ∧ (∀ j, j < c → f (69 + 2 * j) ≠ p.toInt64) ∧ (P < c → p.toInt < (K.1 P).toInt)) := by
  obtain ⟨k1, k2, k3, k4, k5, k6, k7⟩ := h
  have h6 : c ≤ 6 := by omega
  have h68 : (f 68).toInt = (c : Int) := by rw [k1, Int32.toInt_toInt64, hc]
  have hle : (K.2.2 ≤ nI P) ↔ c ≤ P := by
    rw [ec, w_leI, nI_toInt (by omega), nI_toInt (by omega)]
    omega
  have hpa := pa_l (p := p) h68 h6 7 0 (by omega) (by omega) (fun j hj => absurd hj (by omega))
  have hp : F11_pointAt f p = L11_pointAt_2 f p 7 0 := rfl
  rw [← hp] at hpa
  unfold F3_has
  rw [eP]
  by_cases c1 : P < c
  · rw [if_neg (fun q => absurd (hle.mp q) (by omega)), el_in (by omega) (by decide)]
    by_cases c2 : K.1 P = p
    · rw [if_pos c2]
      refine Or.inl ⟨rfl, c1, c2, ?_⟩
      rcases hpa with ⟨-, a2⟩ | a
      · obtain ⟨j, hj, e, -⟩ := k5 P (by omega)
        rw [c2] at e
        exact absurd e (a2 j (by omega))
      · exact a
    · rw [if_neg c2]
      refine Or.inr ⟨rfl, ?_⟩
      have c3 := hP3 c1
      have c4 : (K.1 P).toInt ≠ p.toInt := fun e => c2 (Int32.toInt_inj.mp e)
      rcases hpa with ⟨a1, a2⟩ | ⟨k, a1, a2, a3⟩
      · exact ⟨a1, a2, fun _ => by omega⟩
      · exfalso
        obtain ⟨i, hi, e, -⟩ := k6 k (by omega)
        rw [a3, w_64] at e
        by_cases d1 : i < P
        · have := hP2 i d1
          rw [e] at this
          omega
        · by_cases d2 : i = P
          · rw [d2] at e
            exact c2 e.symm
          · have := k4 P i (by omega) (by omega)
            rw [← e] at this
            omega
  · rw [if_pos (hle.mpr (by omega))]
    refine Or.inr ⟨rfl, ?_⟩
    rcases hpa with ⟨a1, a2⟩ | ⟨k, a1, a2, a3⟩
    · exact ⟨a1, a2, fun q => absurd q c1⟩
    · exfalso
      obtain ⟨i, hi, e, -⟩ := k6 k (by omega)
      rw [a3, w_64] at e
      have := hP2 i (by omega)
      rw [e] at this
      omega
/-- what is moved up -/
def shU (P i : Nat) (a : SS) : SS := fun j => if P < j ∧ j ≤ i then a (j - 1) else a j
theorem mu_l (K : SK) (P : Nat) : ∀ (fu i : Nat) (a b : SS), P ≤ i → i < 6 → i - P < fu → L3_moveUpFrom_5 K (nI P) fu (nI i) a b = (nI P, shU P i a, shU P i b) := by
  intro fu
  induction fu with
  | zero => intro i a b _ _ h; exact absurd h (by omega)
  | succ fu ih =>
    intro i a b h1 h2 h3
    unfold L3_moveUpFrom_5
    by_cases c1 : i ≤ P
    · have e : i = P := by omega
      subst e
      rw [if_pos (Int32.le_refl _)]
      have e : ∀ a : SS, shU i i a = a := fun a => funext fun j => if_neg (by omega)
      rw [e, e]
    · rw [if_neg (by rw [w_leI, nI_toInt (by omega), nI_toInt (by omega)]; omega)]
      unfold K3_moveUpFrom_1 K3_moveUpFrom_2
      have e1 : nI i - 1 = nI (i - 1) := pk_sub (b := 1) (by omega)
      have e2 : nI i + -1 = nI (i - 1) := by
        have := w_pred (i := i) (by omega)
        rw [show Int32.ofInt (-1) = -1 from by decide] at this
        exact this
      rw [e1, e2, el_in (by omega) (by decide), el_in (by omega) (by decide), rp_in (by omega) (by decide), rp_in (by omega) (by decide), ih (i - 1) _ _ (by omega) (by omega) (by omega)]
      have e : ∀ a : SS, shU P (i - 1) (upd a i (a (i - 1))) = shU P i a := fun a => funext fun j => by
        unfold shU
        by_cases d1 : j = i
        · rw [d1, if_neg (by omega), if_pos (by omega), pk_us]
        · by_cases d2 : P < j ∧ j ≤ i
          · rw [if_pos (by omega), if_pos d2, pk_un (by omega)]
          · rw [if_neg (by omega), if_neg d2, pk_un d1]
      rw [e, e]
def shD (P n : Nat) (a : SS) : SS := fun j => if P ≤ j ∧ j < n then a (j + 1) else a j
theorem md_l (K : SK) (p : Int32) (n : Nat) (hn : K.2.2 - 1 = nI n) (hn6 : n < 6) : ∀ (fu i : Nat) (a b : SS), i ≤ n → n - i < fu → L3_drop_6 K p fu (nI i) a b = (nI n, shD i n a, shD i n b) := by
  intro fu
  induction fu with
  | zero => intro i a b _ h; exact absurd h (by omega)
  | succ fu ih =>
    intro i a b h1 h2
    unfold L3_drop_6
    rw [hn]
    by_cases c1 : n ≤ i
    · have e : i = n := by omega
      subst e
      rw [if_pos (Int32.le_refl _)]
      have e : ∀ a : SS, shD i i a = a := fun a => funext fun j => if_neg (by omega)
      rw [e, e]
    · rw [if_neg (by rw [w_leI, nI_toInt (by omega), nI_toInt (by omega)]; omega)]
      unfold K3_drop_1 K3_drop_2
      rw [nI_1, rp_in (by omega) (by decide), rp_in (by omega) (by decide), ih (i + 1) _ _ (by omega) (by omega)]
      by_cases c2 : i + 1 < 6
      · rw [el_in c2 (by decide), el_in c2 (by decide)]
        have e : ∀ a : SS, shD (i + 1) n (upd a i (a (i + 1))) = shD i n a := fun a => funext fun j => by
          unfold shD
          by_cases d1 : j = i
          · rw [d1, if_neg (by omega), if_pos (by omega), pk_us]
          · by_cases d2 : i ≤ j ∧ j < n
            · rw [if_pos (by omega), if_pos d2, pk_un (by omega)]
            · rw [if_neg (by omega), if_neg d2, pk_un d1]
        rw [e, e]
      · omega
/-- the same place with another supply -/
theorem rK_r (h : rK K f) (hc : (c : Int) = K.2.2.toInt) (hP : P < c) (eP : K.1 P = p) {k : Nat} (hk : k < c) (ek : f (69 + 2 * k) = p.toInt64) (v : Int32) : rK (K.1, upd K.2.1 P v, K.2.2) (vp_updL (vp_updL f (69 + 2 * k) p.toInt64) (69 + 2 * k + 1) v.toInt64) := by
  obtain ⟨k1, k2, k3, k4, k5, k6, k7⟩ := h
  have v1 : ∀ j, vp_updL (vp_updL f (69 + 2 * k) p.toInt64) (69 + 2 * k + 1) v.toInt64 (69 + 2 * j) = f (69 + 2 * j) := fun j => by
    rw [w_ro (by omega)]
    by_cases e : j = k
    · rw [e, w_rds, ek]
    · rw [w_ro (by omega)]
  have v2 : ∀ j, j ≠ k → vp_updL (vp_updL f (69 + 2 * k) p.toInt64) (69 + 2 * k + 1) v.toInt64 (69 + 2 * j + 1) = f (69 + 2 * j + 1) := fun j e => by
    rw [w_ro (by omega), w_ro (by omega)]
  refine ⟨(w_ro (by omega)).trans ((w_ro (by omega)).trans k1), k2, k3, k4, fun i hi => ?_, fun j hj => ?_, fun i j hij hj => by rw [v1, v1]; exact k7 i j hij hj⟩
  · have hi : (i : Int) < K.2.2.toInt := hi
    by_cases e : i = P
    · rw [e]
      refine ⟨k, show (k : Int) < K.2.2.toInt by omega, ?_, ?_⟩
      · rw [v1, ek, eP]
      · rw [w_rds]
        exact congrArg Int32.toInt64 pk_us.symm
    · obtain ⟨j, hj, a, b⟩ := k5 i hi
      have hjk : j ≠ k := fun q => by
        rw [q, ek, w_64] at a
        rcases Nat.lt_or_gt_of_ne e with d | d
        · have := k4 i P d (by omega)
          rw [eP, a] at this
          omega
        · have := k4 P i d hi
          rw [eP, a] at this
          omega
      refine ⟨j, hj, by rw [v1]; exact a, by rw [v2 j hjk, b]; exact congrArg Int32.toInt64 (pk_un e).symm⟩
  · have hj : (j : Int) < K.2.2.toInt := hj
    by_cases e : j = k
    · rw [e]
      refine ⟨P, show (P : Int) < K.2.2.toInt by omega, ?_, ?_⟩
      · rw [v1, ek, eP]
      · rw [w_rds]
        exact congrArg Int32.toInt64 pk_us.symm
    · obtain ⟨i, hi, a, b⟩ := k6 j hj
      have hiP : i ≠ P := fun q => by
        rw [q, eP] at a
        rcases Nat.lt_or_gt_of_ne e with d | d
        · exact k7 j k d (by omega) (a.trans ek.symm)
        · exact k7 k j d hj (ek.trans a.symm)
      exact ⟨i, hi, by rw [v1]; exact a, by rw [v2 j e, b]; exact congrArg Int32.toInt64 (pk_un hiP).symm⟩
/-- a new point between the others -/
theorem rK_p (h : rK K f) (ec : K.2.2 = nI c) (hc : (c : Int) = K.2.2.toInt) (hP1 : P ≤ c) (hP2 : ∀ k, k < P → (K.1 k).toInt < p.toInt) (hP3 : P < c → p.toInt < (K.1 P).toInt) (hn : ∀ j, j < c → f (69 + 2 * j) ≠ p.toInt64) (h5 : c < 6) (v : Int32) : rK (upd (shU P c K.1) P p, upd (shU P c K.2.1) P v, nI (c + 1)) (vp_updL (vp_updL (vp_updL f 68 (f 68 + 1)) (69 + 2 * c) p.toInt64) (69 + 2 * c + 1) v.toInt64) := by
  obtain ⟨k1, k2, k3, k4, k5, k6, k7⟩ := h
  have n1 : (nI (c + 1)).toInt = ((c + 1 : Nat) : Int) := nI_toInt (by omega)
  have v1 : ∀ j, j < c → vp_updL (vp_updL (vp_updL f 68 (f 68 + 1)) (69 + 2 * c) p.toInt64) (69 + 2 * c + 1) v.toInt64 (69 + 2 * j) = f (69 + 2 * j) := fun j hj => by
    rw [w_ro (by omega), w_ro (by omega), w_ro (by omega)]
  have v2 : ∀ j, j < c → vp_updL (vp_updL (vp_updL f 68 (f 68 + 1)) (69 + 2 * c) p.toInt64) (69 + 2 * c + 1) v.toInt64 (69 + 2 * j + 1) = f (69 + 2 * j + 1) := fun j hj => by
    rw [w_ro (by omega), w_ro (by omega), w_ro (by omega)]
  have v3 : vp_updL (vp_updL (vp_updL f 68 (f 68 + 1)) (69 + 2 * c) p.toInt64) (69 + 2 * c + 1) v.toInt64 (69 + 2 * c) = p.toInt64 := by
    rw [w_ro (by omega), w_rds]
  have v4 : vp_updL (vp_updL (vp_updL f 68 (f 68 + 1)) (69 + 2 * c) p.toInt64) (69 + 2 * c + 1) v.toInt64 (69 + 2 * c + 1) = v.toInt64 := w_rds _ _ _
  have o1 : ∀ (a : SS) (z : Int32) i, i < P → upd (shU P c a) P z i = a i := fun a z i hi => by
    rw [pk_un (by omega)]
    exact if_neg (by omega)
  have o2 : ∀ (a : SS) (z : Int32) i, P < i → i ≤ c → upd (shU P c a) P z i = a (i - 1) := fun a z i hi hi2 => by
    rw [pk_un (by omega)]
    exact if_pos ⟨hi, hi2⟩
  refine ⟨?_, ?_, ?_, fun i j hij hj => ?_, fun i hi => ?_, fun j hj => ?_, fun i j hij hj => ?_⟩
  · rw [w_ro (by omega), w_ro (by omega), w_rds, k1, ec]
    refine Int64.toInt_inj.mp ?_
    rw [ar_a64, w_il (by omega), w_il (by omega)]
    · rfl
    · rw [w_il (by omega), show (1 : Int64).toInt = 1 from by decide]; omega
    · rw [w_il (by omega), show (1 : Int64).toInt = 1 from by decide]; omega
  · show 1 ≤ (nI (c + 1)).toInt
    rw [n1]; omega
  · show (nI (c + 1)).toInt ≤ 6
    rw [n1]; omega
  · have hj : (j : Int) < (nI (c + 1)).toInt := hj
    rw [n1] at hj
    show (upd (shU P c K.1) P p i).toInt < (upd (shU P c K.1) P p j).toInt
    by_cases d1 : j < P
    · rw [o1 _ _ i (by omega), o1 _ _ j d1]
      exact k4 i j hij (by omega)
    · by_cases d2 : j = P
      · rw [d2, o1 _ _ i (by omega), pk_us]
        exact hP2 i (by omega)
      · rw [o2 _ _ j (by omega) (by omega)]
        by_cases d3 : i < P
        · rw [o1 _ _ i d3]
          exact k4 i (j - 1) (by omega) (by omega)
        · by_cases d4 : i = P
          · rw [d4, pk_us]
            have q1 := hP3 (by omega)
            by_cases d5 : j - 1 = P
            · rw [d5]
              exact q1
            · have := k4 P (j - 1) (by omega) (by omega)
              omega
          · rw [o2 _ _ i (by omega) (by omega)]
            exact k4 (i - 1) (j - 1) (by omega) (by omega)
  · have hi : (i : Int) < (nI (c + 1)).toInt := hi
    rw [n1] at hi
    show ∃ j : Nat, (j : Int) < (nI (c + 1)).toInt ∧ _ = (upd (shU P c K.1) P p i).toInt64 ∧ _ = (upd (shU P c K.2.1) P v i).toInt64
    rw [n1]
    by_cases d1 : i < P
    · obtain ⟨j, hj, a, b⟩ := k5 i (by omega)
      rw [o1 _ _ i d1, o1 _ _ i d1]
      exact ⟨j, by omega, by rw [v1 j (by omega)]; exact a, by rw [v2 j (by omega)]; exact b⟩
    · by_cases d2 : i = P
      · rw [d2, pk_us, pk_us]
        exact ⟨c, by omega, v3, v4⟩
      · obtain ⟨j, hj, a, b⟩ := k5 (i - 1) (by omega)
        rw [o2 _ _ i (by omega) (by omega), o2 _ _ i (by omega) (by omega)]
        exact ⟨j, by omega, by rw [v1 j (by omega)]; exact a, by rw [v2 j (by omega)]; exact b⟩
  · have hj : (j : Int) < (nI (c + 1)).toInt := hj
    rw [n1] at hj
    show ∃ i : Nat, (i : Int) < (nI (c + 1)).toInt ∧ _ = (upd (shU P c K.1) P p i).toInt64 ∧ _ = (upd (shU P c K.2.1) P v i).toInt64
    rw [n1]
    by_cases d1 : j = c
    · rw [d1]
      exact ⟨P, by omega, by rw [v3, pk_us], by rw [v4, pk_us]⟩
    · obtain ⟨i, hi, a, b⟩ := k6 j (by omega)
      by_cases d2 : i < P
      · exact ⟨i, by omega, by rw [v1 j (by omega), o1 _ _ i d2]; exact a, by rw [v2 j (by omega), o1 _ _ i d2]; exact b⟩
      · exact ⟨i + 1, by omega, by rw [v1 j (by omega), o2 _ _ (i + 1) (by omega) (by omega)]; exact a, by rw [v2 j (by omega), o2 _ _ (i + 1) (by omega) (by omega)]; exact b⟩
  · have hj : (j : Int) < (nI (c + 1)).toInt := hj
    rw [n1] at hj
    by_cases d1 : j = c
    · rw [d1, v3, v1 i (by omega)]
      exact hn i (by omega)
    · rw [v1 i (by omega), v1 j (by omega)]
      exact k7 i j hij (by omega)
/-- a point is taken away, the model's last one takes its place -/
theorem rK_d (h : rK K f) (ec : K.2.2 = nI c) (hc : (c : Int) = K.2.2.toInt) (h2 : 2 ≤ c) (hP : P < c) (eP : K.1 P = p) {k : Nat} (hk : k < c) (ek : f (69 + 2 * k) = p.toInt64) {f' : Nat → Int64} (u68 : f' 68 = f 68 - 1) (uk : k < c - 1 → f' (69 + 2 * k) = f (69 + 2 * (c - 1)) ∧ f' (69 + 2 * k + 1) = f (69 + 2 * (c - 1) + 1)) (uo : ∀ j, j < c - 1 → j ≠ k → f' (69 + 2 * j) = f (69 + 2 * j) ∧ f' (69 + 2 * j + 1) = f (69 + 2 * j + 1)) : rK (shD P (c - 1) K.1, shD P (c - 1) K.2.1, nI (c - 1)) f' := by
  obtain ⟨k1, k2, k3, k4, k5, k6, k7⟩ := h
  have n1 : (nI (c - 1)).toInt = ((c - 1 : Nat) : Int) := nI_toInt (by omega)
  -- where the model's points were
  have hE : ∀ j, j < c - 1 → ∃ j0, j0 < c ∧ j0 ≠ k ∧ f' (69 + 2 * j) = f (69 + 2 * j0) ∧ f' (69 + 2 * j + 1) = f (69 + 2 * j0 + 1) ∧ ((j = k ∧ j0 = c - 1) ∨ (j ≠ k ∧ j0 = j)) := fun j hj => by
    by_cases e : j = k
    · obtain ⟨a, b⟩ := uk (by omega)
      rw [e]
      exact ⟨c - 1, by omega, by omega, a, b, Or.inl ⟨rfl, rfl⟩⟩
    · obtain ⟨a, b⟩ := uo j hj e
      exact ⟨j, by omega, e, a, b, Or.inr ⟨e, rfl⟩⟩
  have hN : ∀ i j0, i < c → j0 < c → j0 ≠ k → f (69 + 2 * j0) = (K.1 i).toInt64 → i ≠ P := fun i j0 hi hj0 hjk a q => by
    rw [q, eP] at a
    rcases Nat.lt_or_gt_of_ne hjk with d | d
    · exact k7 j0 k d (by omega) (a.trans ek.symm)
    · exact k7 k j0 d (by omega) (ek.trans a.symm)
  have o1 : ∀ (a : SS) i, i < P → shD P (c - 1) a i = a i := fun a i hi => if_neg (by omega)
  have o2 : ∀ (a : SS) i, P ≤ i → i < c - 1 → shD P (c - 1) a i = a (i + 1) := fun a i hi hi2 => if_pos ⟨hi, hi2⟩
  refine ⟨?_, ?_, ?_, fun i j hij hj => ?_, fun i hi => ?_, fun j hj => ?_, fun i j hij hj => ?_⟩
  · rw [u68, k1, ec]
    refine Int64.toInt_inj.mp ?_
    rw [ar_s64, w_il (by omega), w_il (by omega), show (1 : Int64).toInt = 1 from by decide]
    · omega
    · rw [w_il (by omega), show (1 : Int64).toInt = 1 from by decide]; omega
    · rw [w_il (by omega), show (1 : Int64).toInt = 1 from by decide]; omega
  · show 1 ≤ (nI (c - 1)).toInt
    rw [n1]; omega
  · show (nI (c - 1)).toInt ≤ 6
    rw [n1]; omega
  · have hj : (j : Int) < (nI (c - 1)).toInt := hj
    rw [n1] at hj
    show (shD P (c - 1) K.1 i).toInt < (shD P (c - 1) K.1 j).toInt
    by_cases d1 : i < P
    · rw [o1 _ i d1]
      by_cases d2 : j < P
      · rw [o1 _ j d2]
        exact k4 i j hij (by omega)
      · rw [o2 _ j (by omega) (by omega)]
        exact k4 i (j + 1) (by omega) (by omega)
    · rw [o2 _ i (by omega) (by omega), o2 _ j (by omega) (by omega)]
      exact k4 (i + 1) (j + 1) (by omega) (by omega)
  · have hi : (i : Int) < (nI (c - 1)).toInt := hi
    rw [n1] at hi
    show ∃ j : Nat, (j : Int) < (nI (c - 1)).toInt ∧ _ = (shD P (c - 1) K.1 i).toInt64 ∧ _ = (shD P (c - 1) K.2.1 i).toInt64
    rw [n1]
    have hI : ∃ i0, i0 < c ∧ i0 ≠ P ∧ shD P (c - 1) K.1 i = K.1 i0 ∧ shD P (c - 1) K.2.1 i = K.2.1 i0 := by
      by_cases d1 : i < P
      · exact ⟨i, by omega, by omega, o1 _ i d1, o1 _ i d1⟩
      · exact ⟨i + 1, by omega, by omega, o2 _ i (by omega) (by omega), o2 _ i (by omega) (by omega)⟩
    obtain ⟨i0, hi0, hiP, a1, a2⟩ := hI
    rw [a1, a2]
    obtain ⟨j0, hj0, b1, b2⟩ := k5 i0 (by omega)
    have hjk : j0 ≠ k := fun q => by
      rw [q, ek, w_64] at b1
      rcases Nat.lt_or_gt_of_ne hiP with d | d
      · have := k4 i0 P d (by omega)
        rw [eP, b1] at this
        omega
      · have := k4 P i0 d (by omega)
        rw [eP, b1] at this
        omega
    by_cases d : j0 = c - 1
    · obtain ⟨u1, u2⟩ := uk (by omega)
      rw [d] at b1 b2
      exact ⟨k, by omega, u1.trans b1, u2.trans b2⟩
    · obtain ⟨u1, u2⟩ := uo j0 (by omega) hjk
      exact ⟨j0, by omega, u1.trans b1, u2.trans b2⟩
  · have hj : (j : Int) < (nI (c - 1)).toInt := hj
    rw [n1] at hj
    show ∃ i : Nat, (i : Int) < (nI (c - 1)).toInt ∧ _ = (shD P (c - 1) K.1 i).toInt64 ∧ _ = (shD P (c - 1) K.2.1 i).toInt64
    rw [n1]
    obtain ⟨j0, hj0, hjk, a1, a2, -⟩ := hE j (by omega)
    obtain ⟨i0, hi0, b1, b2⟩ := k6 j0 (by omega)
    have hiP := hN i0 j0 (by omega) hj0 hjk b1
    by_cases d1 : i0 < P
    · exact ⟨i0, by omega, by rw [a1, o1 _ i0 d1]; exact b1, by rw [a2, o1 _ i0 d1]; exact b2⟩
    · have e : i0 - 1 + 1 = i0 := by omega
      exact ⟨i0 - 1, by omega, by rw [a1, o2 _ (i0 - 1) (by omega) (by omega), e]; exact b1, by rw [a2, o2 _ (i0 - 1) (by omega) (by omega), e]; exact b2⟩
  · have hj : (j : Int) < (nI (c - 1)).toInt := hj
    rw [n1] at hj
    obtain ⟨j1, hj1, -, a1, -, q1⟩ := hE i (by omega)
    obtain ⟨j2, hj2, -, a2, -, q2⟩ := hE j (by omega)
    rw [a1, a2]
    rcases Nat.lt_or_gt_of_ne (show j1 ≠ j2 by omega) with d | d
    · exact k7 j1 j2 d (by omega)
    · exact fun e => k7 j2 j1 d (by omega) e.symm
end P
