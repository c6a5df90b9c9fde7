/-! plain answers agree -/
section G
variable {u : PlS} {f : Nat → Int64}
theorem g_i {x : Int64} {y : Int32} (h : x = y.toInt64) : y = x.toInt32 := by rw [h, Int32.toInt32_toInt64]
theorem time_e (h : rl u f) : F10_time u = F11_time f := by
  obtain ⟨-, -, -, -, -, -, -, -, -, -, -, h12, -⟩ := h
  exact g_i h12
theorem pump_e (h : rl u f) : F10_pump u = F11_pump f := by
  obtain ⟨-, -, -, -, -, -, -, h8, -⟩ := h
  exact g_i h8
theorem reason_e (h : rl u f) : F10_reason u = F11_reason f := by
  obtain ⟨-, -, -, -, -, -, -, -, -, -, -, -, h13, -⟩ := h
  exact g_i h13
theorem starts_e (h : rl u f) : F10_starts u = F11_starts f := by
  obtain ⟨-, -, -, -, -, -, -, -, -, -, -, -, -, -, h15, -⟩ := h
  exact g_i h15
theorem defrosts_e (h : rl u f) : F10_defrosts u = F11_defrosts f := by
  obtain ⟨-, -, -, -, -, -, -, -, -, -, -, -, -, -, -, h16, -⟩ := h
  exact g_i h16
theorem frost_e (h : rl u f) : F10_frost u = F11_frost f := by
  obtain ⟨-, -, -, -, -, -, -, -, -, -, h11, -⟩ := h
  exact g_i h11
theorem sums_e (h : rl u f) : F10_produced u = F11_produced f ∧ F10_defrostHeat u = F11_defrostHeat f ∧ F10_drawn u = F11_drawn f ∧ F10_unmet u = F11_unmet f ∧ F10_lost u = F11_lost f ∧ F10_electricity u = F11_electricity f ∧ F10_cost u = F11_cost f := by
  obtain ⟨-, -, -, -, -, -, -, -, -, -, -, -, -, -, -, -, h17, h18, h19, h20, h21, h22, h23, -⟩ := h
  exact ⟨h17.symm, h18.symm, h19.symm, h20.symm, h21.symm, h22.symm, h23.symm⟩
theorem stored_e (h : rl u f) : F10_stored u = F11_stored f := by
  obtain ⟨-, -, -, -, -, -, h7, -⟩ := h
  have a0 := h7 0 (by omega)
  have a1 := h7 1 (by omega)
  have a2 := h7 2 (by omega)
  have a3 := h7 3 (by omega)
  unfold F10_stored F1_energyOfAll F11_stored
  rw [a0, a1, a2, a3, Int64.zero_add]
end G
