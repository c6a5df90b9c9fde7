/-! the checksum doesn't look at the conditions -/
section D
variable {u : PlS} {c : SC}
theorem dg_1 (p : Int64) : ∀ (fu i : Nat) (zz : Int64), L10_mixedWithSettings_5 (wC u c) p fu i zz = L10_mixedWithSettings_5 u p fu i zz := by
  intro fu
  induction fu with
  | zero => intro i zz; rfl
  | succ fu ih =>
    intro i zz
    unfold L10_mixedWithSettings_5
    rw [ih]
    rfl
theorem dg_2 (p : Int64) (z : Nat × Int64) : ∀ (fu i : Nat) (zz : Int64), L10_mixedWithSettings_33 (wC u c) p z fu i zz = L10_mixedWithSettings_33 u p z fu i zz := by
  intro fu
  induction fu with
  | zero => intro i zz; rfl
  | succ fu ih =>
    intro i zz
    unfold L10_mixedWithSettings_33
    rw [ih]
    rfl
theorem dg_3 (p : Int64) : ∀ (fu i : Nat) (zz : Int64), L10_mixedWithBuffer_5 (wC u c) p fu i zz = L10_mixedWithBuffer_5 u p fu i zz := by
  intro fu
  induction fu with
  | zero => intro i zz; rfl
  | succ fu ih =>
    intro i zz
    unfold L10_mixedWithBuffer_5
    rw [ih]
    rfl
theorem dg_4 (p : Int64) : ∀ (fu i : Nat) (zz : Int64), L10_mixedWithSimulation_23 (wC u c) p fu i zz = L10_mixedWithSimulation_23 u p fu i zz := by
  intro fu
  induction fu with
  | zero => intro i zz; rfl
  | succ fu ih =>
    intro i zz
    unfold L10_mixedWithSimulation_23
    rw [ih]
    rfl
theorem dg_a (p : Int64) : F10_mixedWithSettings (wC u c) p = F10_mixedWithSettings u p := by
  unfold F10_mixedWithSettings K10_mixedWithSettings_1
  rw [dg_1, dg_2]
  rfl
theorem dg_b (p : Int64) : F10_mixedWithBuffer (wC u c) p = F10_mixedWithBuffer u p := by
  unfold F10_mixedWithBuffer
  rw [dg_3]
  rfl
theorem dg_s (p : Int64) : F10_mixedWithSimulation (wC u c) p = F10_mixedWithSimulation u p := by
  unfold F10_mixedWithSimulation
  rw [dg_4]
  rfl
theorem dg_wC (o o' k : Nat) (x : ST) : F10_digest (wC u c) o k x = F10_digest u o' k x := by
  have e1 : F10_time (wC u c) = F10_time u := rfl
  have e2 : ∀ p, F10_mixedWithAccounts (wC u c) p = F10_mixedWithAccounts u p := fun p => rfl
  unfold F10_digest
  rw [e1, e2, dg_a, dg_b, dg_s]
end D
theorem dg_o (u : PlS) (o o' k : Nat) (x : ST) : F10_digest u o k x = F10_digest u o' k x := rfl
/-! thirty changes -/
section E
variable {u u1 : PlS} {o k : Nat} {h : Nat → PlS} {x2 : ST} {L : Nat} {xs : Nat → Int32} {z1 : Int32 × PlS × ((Nat × Nat) × (Nat → PlS))} {z5 : Int32 × PlS × ((Nat × Nat) × (Nat → PlS)) × ST} {z7 : Int32 × PlS × ((Nat × Nat) × (Nat → PlS))}
theorem lt_153 {i : Nat} {v w : PlS} {o9 k9 : Nat} {h9 : Nat → PlS} {z12 : QZ} {rec72 : Nat → PlS → PlS → Nat → Nat → (Nat → PlS) → Bool} (H : Hv z12.2.1 z12.2.2.2.1.1 z12.2.2.2.1.2 z12.2.2.2.2) (hrec : ∀ v' w' o' k' h', Hv v' o' k' h' → rec72 (i + 1) v' w' o' k' h' = true) : T12_law_153 u u1 o k h x2 L xs i v w o9 k9 h9 z1 z5 z7 z12 rec72 = true := by
  obtain ⟨p1, p2, p3⟩ := sp_ok H (a := 1) (b := 7) (by omega) (by omega)
  have p1 : (F10_setPrice z12.2.1 z12.2.2.2.1.1 z12.2.2.2.1.2 z12.2.2.2.2 (1 : Int32) (7 : Int32)).1 = nI (F10_setPrice z12.2.1 z12.2.2.2.1.1 z12.2.2.2.1.2 z12.2.2.2.2 (1 : Int32) (7 : Int32)).2.2.1.2 := p1
  have p2 : cz z12.2.1 (uW z12.2.1 ((pW z12.2.1).1, (pW z12.2.1).2.1, upd (pW z12.2.1).2.2 1 (nI 7))) z12.2.2.2.1.2 (F10_setPrice z12.2.1 z12.2.2.2.1.1 z12.2.2.2.1.2 z12.2.2.2.2 (1 : Int32) (7 : Int32)) := p2
  unfold T12_law_153 K12_law_5
  generalize F10_setPrice z12.2.1 z12.2.2.2.1.1 z12.2.2.2.1.2 z12.2.2.2.2 (1 : Int32) (7 : Int32) = z15 at p1 p2 ⊢
  have H15 := cz_H p2 p3
  have H16 := un_H H15
  obtain ⟨c, eu⟩ := cz_un p2
  generalize F10_undo z15.2.1 z15.2.2.1.1 z15.2.2.1.2 z15.2.2.2 = z16 at eu H16 ⊢
  have g0 : z16.1 = nI (z15.2.2.1.2 - 1) := congrArg (fun q : RZ => q.1) eu
  have g1 : z16.2.1 = wC z12.2.1 c := congrArg (fun q : RZ => q.2.1) eu
  have g2 : z16.2.2.1.2 = z15.2.2.1.2 - 1 := congrArg (fun q : RZ => q.2.2.1.2) eu
  have hk1 := p2.2.2.1
  have hk4 := p2.2.2.2.1
  have hkk := p2.2.2.2.2.1
  have q1 : z16.1 = z15.1 - (1 : Int32) := by
    rw [g0, p1]
    exact (pk_sub (a := z15.2.2.1.2) (b := 1) hk1).symm
  -- behind the undoing
  have key : T12_law_199 u u1 o k h x2 L xs i v w o9 k9 h9 z1 z5 z7 z12 z15 z16 rec72 = true := by
    unfold T12_law_199
    have hz := sp_3 z16.2.1 z16.2.2.1.1 z16.2.2.1.2 z16.2.2.2
    generalize F10_setPrice z16.2.1 z16.2.2.1.1 z16.2.2.1.2 z16.2.2.2 (3 : Int32) (0 : Int32) = z18 at hz ⊢
    have r1 : z18.1 = (-1 : Int32) := by rw [hz]
    have r2 : z18.2.2.1.2 = z16.2.2.1.2 := by rw [hz]
    have H18 : Hv z18.2.1 z18.2.2.1.1 z18.2.2.1.2 z18.2.2.2 := by rw [hz]; exact H16
    unfold K12_law_7
    rw [if_pos r1]
    by_cases c4 : z15.1 = (4 : Int32)
    · rw [if_pos c4]
      have k4 : z15.2.2.1.2 = 4 := by
        rw [p1] at c4
        exact (nI_eq (a := z15.2.2.1.2) (b := 4) (by omega) (by omega)).mp c4
      have k3 : z18.2.2.1.2 = 3 := by omega
      have H21 := un_H H18
      have e21 : (F10_undo z18.2.1 z18.2.2.1.1 z18.2.2.1.2 z18.2.2.2).1 = (2 : Int32) := by
        rw [un_k (by omega), k3]
        rfl
      unfold K12_law_8 T12_law_227
      rw [if_pos e21]
      exact hrec _ _ _ _ _ H21
    · rw [if_neg c4]
      unfold T12_law_227
      exact hrec _ _ _ _ _ H18
  unfold K12_law_6
  rw [if_pos q1]
  by_cases c4 : (4 : Int32) ≤ z15.1
  · rw [if_pos c4]
    exact key
  · rw [if_neg c4]
    have k4 : ¬ z15.2.2.1.2 = 4 := fun q => c4 (by rw [p1, q]; decide)
    have k5 : z16.2.2.1.2 = z12.2.2.2.1.2 := by omega
    rw [if_pos (show F10_digest z16.2.1 z16.2.2.1.1 z16.2.2.1.2 z5.2.2.2 = F10_digest z12.2.1 z12.2.2.2.1.1 z12.2.2.2.1.2 z5.2.2.2 by rw [g1, k5]; exact dg_wC _ _ _ _)]
    exact key
theorem lt_L : ∀ (fu i : Nat) (v w : PlS) (o9 k9 : Nat) (h9 : Nat → PlS), i ≤ 30 → 30 - i < fu → Hv v o9 k9 h9 → L12_law_72 u u1 o k h x2 L xs z1 z5 z7 fu i v w o9 k9 h9 = true := by
  intro fu
  induction fu with
  | zero => intro i _ _ _ _ _ _ h; exact absurd h (by omega)
  | succ fu ih =>
    intro i v w o9 k9 h9 hi hf H
    unfold L12_law_72
    by_cases c : 30 ≤ i
    · rw [if_pos c]
    · rw [if_neg c]
      obtain ⟨g1, g2, g3⟩ := ch_ok (u1 := w) H (F12_cell L xs ((2 : Int32) * (nI i))) (F12_cell L xs (((2 : Int32) * (nI i)) + (1 : Int32)))
      generalize F12_changes v w o9 k9 h9 (F12_cell L xs ((2 : Int32) * (nI i))) (F12_cell L xs (((2 : Int32) * (nI i)) + (1 : Int32))) = z12 at g1 g2 g3 ⊢
      have key := lt_153 (u := u) (u1 := u1) (o := o) (k := k) (h := h) (x2 := x2) (L := L) (xs := xs) (z1 := z1) (z5 := z5) (z7 := z7) (i := i) (v := v) (w := w) (o9 := o9) (k9 := k9) (h9 := h9) (rec72 := L12_law_72 u u1 o k h x2 L xs z1 z5 z7 fu) g2 (fun v' w' o' k' h' H' => ih (i + 1) v' w' o' k' h' (by omega) (by omega) H')
      unfold K12_law_4
      rw [if_pos g1, if_pos (ru_ok g2.1)]
      by_cases c2 : ((F12_cell L xs ((2 : Int32) * (nI i))) &&& (15 : Int32)) ≤ (13 : Int32)
      · rw [if_neg (by rw [decide_eq_true c2]; decide)]
        exact key
      · rw [if_pos (by rw [decide_eq_false c2]; decide)]
        obtain ⟨e1, e2⟩ := g3 c2
        rw [if_pos (show F10_digest z12.2.1 z12.2.2.2.1.1 z12.2.2.2.1.2 z5.2.2.2 = F10_digest v o9 k9 z5.2.2.2 by rw [e1, e2]; exact dg_o _ _ _ _ _)]
        exact key
end E
/-! the beginning -/
theorem in_Iv : Iv F5_init := by
  have et : (pT F5_init).toInt = 0 := by decide +kernel
  refine ⟨?_, ⟨by decide +kernel, by decide +kernel, by decide +kernel⟩, ⟨by decide +kernel, by decide +kernel⟩, ⟨by decide +kernel, by decide +kernel⟩, ⟨by decide +kernel, by decide +kernel, ?_⟩, ⟨Or.inl (by decide +kernel), fun _ => ⟨by decide +kernel, by decide +kernel⟩, fun q => absurd q (by rw [et]; omega)⟩, ⟨⟨by decide +kernel, by decide +kernel⟩, by decide +kernel, by decide +kernel, by decide +kernel, by decide +kernel, by decide +kernel⟩, ⟨by decide +kernel, by decide +kernel, by decide +kernel⟩, ⟨by decide +kernel, by decide +kernel, by decide +kernel, by decide +kernel, by decide +kernel⟩⟩
  · show ∀ j, j < 17 → _
    decide +kernel
  · show ∀ j, j < 4 → _
    decide +kernel
theorem in_Hv : Hv F5_init 0 0 (fun _ => F5_init) := ⟨in_Iv, by omega, by omega, fun _ => in_Iv⟩
/-- an empty text is a sheet without entries -/
theorem ce_0 : F9_countEntries F9_init = ((0 : Int32), F9_init) := by
  unfold F9_countEntries L9_countEntries_9
  rw [if_neg (show ¬ 100 ≤ 0 by omega), if_pos (show (F9_init.1, F9_init.2.1, (0 : Int32), F9_init.2.2.2.1, F9_init.2.2.2.2.1, F9_init.2.2.2.2.2.1, F9_init.2.2.2.2.2.2).2.1 ≤ (F9_init.1, F9_init.2.1, (0 : Int32), F9_init.2.2.2.1, F9_init.2.2.2.2.1, F9_init.2.2.2.2.2.1, F9_init.2.2.2.2.2.2).2.2.1 by decide)]
  rfl
theorem co_0 (w : SW) : (F9_carryOut F9_init w).2 = w := by
  unfold F9_carryOut L9_carryOut_7
  rw [if_neg (show ¬ 100 ≤ 0 by omega), if_pos (show (F9_init.1, F9_init.2.1, (0 : Int32), F9_init.2.2.2.1, F9_init.2.2.2.2.1, F9_init.2.2.2.2.2.1, F9_init.2.2.2.2.2.2).2.1 ≤ (F9_init.1, F9_init.2.1, (0 : Int32), F9_init.2.2.2.1, F9_init.2.2.2.2.1, F9_init.2.2.2.2.2.1, F9_init.2.2.2.2.2.2).2.2.1 by decide)]
  rfl
theorem lw_0 {u : PlS} {o k : Nat} {h : Nat → PlS} (H : Hv u o k h) : (F10_loadWeather u o k h F9_init).1 = (0 : Int32) ∧ Hv (F10_loadWeather u o k h F9_init).2.1 (F10_loadWeather u o k h F9_init).2.2.1.1.1 (F10_loadWeather u o k h F9_init).2.2.1.1.2 (F10_loadWeather u o k h F9_init).2.2.1.2 ∧ (k = 0 → (F10_loadWeather u o k h F9_init).2.2.1.1.2 = 1) := by
  obtain ⟨-, r2⟩ := rec_ok H
  unfold F10_loadWeather
  rw [ce_0]
  unfold K10_loadWeather_1
  rw [if_pos (show (0 : Int32) ≤ ((0 : Int32), F9_init).1 by decide)]
  unfold K10_loadWeather_2 K10_loadWeather_3
  generalize F4_record o k h u = z3 at r2 ⊢
  have e := co_0 (pW u)
  refine ⟨rfl, ⟨?_, r2.1, r2.2.2.1, r2.2.2.2.2.2⟩, fun hk => ?_⟩
  · show Iv (pS u, (F9_carryOut F9_init (pW u)).2, pK u, pB u, pP u, pA u, pC u, pT u)
    rw [e]
    exact H.1
  · show z3.2.1.2 = 1
    have := r2.2.2.2.1
    omega
theorem law_true (L : Nat) (xs : Nat → Int32) : F12_law F5_init F5_init 0 0 (fun _ => F5_init) F9_init L xs = true := by
  unfold F12_law
  have hz := un_0 F5_init 0 (fun _ => F5_init)
  generalize F10_undo F5_init 0 0 (fun _ => F5_init) = z1 at hz ⊢
  have a1 : z1.1 = (-2 : Int32) := by rw [hz]
  have a2 : F10_reason z1.2.1 = (-9999 : Int32) := by rw [hz]; decide +kernel
  have a3 : F10_stored z1.2.1 = (840000 : Int64) := by rw [hz]; decide +kernel
  have a4 : Hv z1.2.1 z1.2.2.1.1 z1.2.2.1.2 z1.2.2.2 := by rw [hz]; exact in_Hv
  have a5 : z1.2.2.1.2 = 0 := by rw [hz]
  unfold K12_law_1
  rw [if_pos a1, if_pos a2, if_pos a3]
  obtain ⟨b1, b2, b3⟩ := lw_0 a4
  have b3 := b3 a5
  generalize F10_loadWeather z1.2.1 z1.2.2.1.1 z1.2.2.1.2 z1.2.2.2 F9_init = z5 at b1 b2 b3 ⊢
  unfold K12_law_2
  rw [if_pos b1]
  have H7 := un_H b2
  have e7 : (F10_undo z5.2.1 z5.2.2.1.1.1 z5.2.2.1.1.2 z5.2.2.1.2).1 = (0 : Int32) := by
    rw [un_k (by omega), b3]
    rfl
  generalize F10_undo z5.2.1 z5.2.2.1.1.1 z5.2.2.1.1.2 z5.2.2.1.2 = z7 at e7 H7 ⊢
  unfold K12_law_3
  rw [if_pos e7, if_pos (ru_ok H7.1)]
  exact lt_L 31 0 _ _ _ _ _ (by omega) (by omega) H7
