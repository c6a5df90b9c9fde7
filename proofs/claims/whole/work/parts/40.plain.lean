/-! plain answers agree -/
section G
variable {M : Int} {u : PlS} {f : Nat → Int64}
theorem time_e (h : rl M u f) : F10_time u = F11_time f := by
  obtain ⟨-, ⟨-, -, -, -, -, h12, -⟩, -⟩ := h
  exact g_i h12
theorem pump_e (h : rl M u f) : F10_pump u = F11_pump f := by
  obtain ⟨-, ⟨-, h8, -⟩, -⟩ := h
  exact g_i h8
theorem reason_e (h : rl M u f) : F10_reason u = F11_reason f := by
  obtain ⟨-, ⟨-, -, -, -, -, -, h13, -⟩, -⟩ := h
  exact g_i h13
theorem starts_e (h : rl M u f) : F10_starts u = F11_starts f := by
  obtain ⟨-, ⟨-, -, -, -, -, -, -, -, h15, -⟩, -⟩ := h
  exact g_i h15
theorem defrosts_e (h : rl M u f) : F10_defrosts u = F11_defrosts f := by
  obtain ⟨-, ⟨-, -, -, -, -, -, -, -, -, h16, -⟩, -⟩ := h
  exact g_i h16
theorem frost_e (h : rl M u f) : F10_frost u = F11_frost f := by
  obtain ⟨-, ⟨-, -, -, -, h11, -⟩, -⟩ := h
  exact g_i h11
theorem sums_e (h : rl M u f) : F10_produced u = F11_produced f ∧ F10_defrostHeat u = F11_defrostHeat f ∧ F10_drawn u = F11_drawn f ∧ F10_unmet u = F11_unmet f ∧ F10_lost u = F11_lost f ∧ F10_electricity u = F11_electricity f ∧ F10_cost u = F11_cost f := by
  obtain ⟨-, ⟨-, -, -, -, -, -, -, -, -, -, h17, h18, h19, h20, h21, h22, h23, -⟩, -⟩ := h
  exact ⟨h17.symm, h18.symm, h19.symm, h20.symm, h21.symm, h22.symm, h23.symm⟩
theorem stored_e (h : rl M u f) : F10_stored u = F11_stored f := by
  obtain ⟨-, ⟨h7, -⟩, -⟩ := h
  have a0 := h7 0 (by omega)
  have a1 := h7 1 (by omega)
  have a2 := h7 2 (by omega)
  have a3 := h7 3 (by omega)
  unfold F10_stored F1_energyOfAll F11_stored
  rw [a0, a1, a2, a3, Int64.zero_add]
theorem setting_e (h : rl M u f) (p : Int32) : F10_setting u p = F11_setting f p := by
  obtain ⟨⟨h1, -⟩, -⟩ := h
  exact el_e (a := 0) (hi := 16) (by decide) (by decide) (fun j hj => by rw [Nat.zero_add]; exact h1 j hj)
theorem outdoor_e (h : rl M u f) (p : Int32) : F10_outdoor u p = F11_outdoor f p := by
  obtain ⟨⟨-, h1, -⟩, -⟩ := h
  exact el_e (a := 17) (hi := 23) (by decide) (by decide) h1
theorem tariff_e (h : rl M u f) (p : Int32) : F10_tariff u p = F11_tariff f p := by
  obtain ⟨⟨-, -, h1, -⟩, -⟩ := h
  exact el_e (a := 41) (hi := 23) (by decide) (by decide) h1
theorem minutesWith_e (h : rl M u f) (p : Int32) : F10_minutesWith u p = F11_minutesWith f p := by
  obtain ⟨-, ⟨-, -, -, -, -, -, -, h1, -⟩, -⟩ := h
  exact el_e (a := 93) (hi := 11) (by decide) (by decide) h1
/-- warmth of a layer -/
theorem wrm_e {E : Nat → Int64} {c : Int32} (hE : ∀ j, j < 4 → f (82 + j) = E j) (hc : f 81 = c.toInt64) (hb : bB c) {k : Nat} (hk : k < 4) : F1_temperatureOf (E, c) (nI k) = F11_warmth f k := by
  unfold F1_temperatureOf F11_warmth
  rw [if_neg (w_i0 (by rw [nI_toInt (by omega)]; omega)), if_neg, nI_clamp (by omega), hE k hk, hc]
  · refine div_e ?_
    rw [Int32.toInt_toInt64]
    show 0 < c.toInt
    have := hb.1
    omega
  · rw [w_leI, nI_toInt (by omega), show (4 : Int32).toInt = 4 from by decide]
    omega
theorem temperature_e (h : rl M u f) (p : Int32) : F10_temperature u p = F11_temperature f p := by
  obtain ⟨⟨-, -, -, -, -, h6, -, -, -, h10⟩, ⟨h7, -⟩, -⟩ := h
  unfold F10_temperature F11_temperature
  by_cases hp : F11_in p.toInt64 0 3 = true
  · have h1 := in_iff.mp hp
    rw [show (0 : Int64).toInt = 0 from by decide, show (3 : Int64).toInt = 3 from by decide] at h1
    have e : p = nI p.toNatClampNeg := w_nat (w_i0 h1.1)
    have hl : p.toNatClampNeg < 4 := by
      unfold Int32.toNatClampNeg
      omega
    rw [if_pos hp, ← wrm_e h7 h6 h10 hl, ← e]
  · rw [if_neg hp]
    have h1 := mt in_iff.mpr hp
    rw [show (0 : Int64).toInt = 0 from by decide, show (3 : Int64).toInt = 3 from by decide] at h1
    unfold F1_temperatureOf
    by_cases h2 : p < 0
    · rw [if_pos h2]
      rfl
    · rw [if_neg h2, if_pos]
      · rfl
      · rw [w_ltI, show (0 : Int32).toInt = 0 from by decide] at h2
        rw [w_leI, show (4 : Int32).toInt = 4 from by decide]
        omega
/-- the starts of the last hour, one by one -/
theorem sl_e (x0 : MoN) {s : SS} (hs : ∀ j, j < 60 → f (114 + j) = (s j).toInt64) : ∀ fu i, i ≤ 60 → 60 - i < fu → (L11_startsLately_4 x0 f fu i (wS s i)).2 = wS s 60 := by
  intro fu
  induction fu with
  | zero => intro i _ h; exact absurd h (by omega)
  | succ fu ih =>
    intro i h1 h2
    unfold L11_startsLately_4
    by_cases h3 : 60 ≤ i
    · rw [if_pos h3, show i = 60 by omega]
    · rw [if_neg h3, hs i (by omega), Int32.toInt32_toInt64]
      exact ih (i + 1) (by omega) (by omega)
theorem sla_e (x0 : MoN) {N : Int} {E : Nat → Int64} {P : SP} {A : SA} {T : Int32} (h : rd N E P A T f) : P.2.2.2.2.2.1 = F11_startsLately x0 f := by
  obtain ⟨-, -, -, -, -, -, -, -, -, -, -, -, -, -, -, -, -, h24, -, hb, -⟩ := h
  obtain ⟨-, -, -, -, -, hs⟩ := hb
  unfold F11_startsLately K11_startsLately_1
  rw [hs]
  exact (sl_e x0 h24 61 0 (by omega) (by omega)).symm
theorem lastHour_e (x0 : MoN) (h : rl M u f) : F10_startsLastHour u = F11_startsLastHour x0 f := sla_e x0 h.2.1
end G
