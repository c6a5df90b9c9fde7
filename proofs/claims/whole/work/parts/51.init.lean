/-! the beginning -/
theorem in_K : rK (pK F5_init) F11_init := by
  have e : (pK F5_init).2.2 = nI 2 := by decide +kernel
  have ec : (pK F5_init).2.2.toInt = 2 := by decide +kernel
  refine ⟨by decide +kernel, by decide +kernel, by decide +kernel, fun i j hij hj => ?_, fun i hi => ?_, fun j hj => ?_, fun i j hij hj => ?_⟩
  · rw [ec] at hj
    have h1 : i = 0 := by omega
    have h2 : j = 1 := by omega
    subst h1
    subst h2
    decide +kernel
  · rw [ec] at hi ⊢
    rcases (show i = 0 ∨ i = 1 by omega) with rfl | rfl
    · exact ⟨0, by omega, by decide +kernel, by decide +kernel⟩
    · exact ⟨1, by omega, by decide +kernel, by decide +kernel⟩
  · rw [ec] at hj ⊢
    rcases (show j = 0 ∨ j = 1 by omega) with rfl | rfl
    · exact ⟨0, by omega, by decide +kernel, by decide +kernel⟩
    · exact ⟨1, by omega, by decide +kernel, by decide +kernel⟩
  · rw [ec] at hj
    have h1 : i = 0 := by omega
    have h2 : j = 1 := by omega
    subst h1
    subst h2
    decide +kernel
theorem in_bK : bK (pK F5_init) := by
  have ec : (pK F5_init).2.2.toInt = 2 := by decide +kernel
  intro i hi
  rw [ec] at hi
  rcases (show i = 0 ∨ i = 1 by omega) with rfl | rfl
  · decide +kernel
  · decide +kernel
theorem in_bS : bS (pS F5_init) := by
  show ∀ j, j < 17 → _
  decide +kernel
theorem in_bW : bW (pW F5_init) := ⟨by decide +kernel, by decide +kernel, by decide +kernel⟩
theorem in_rs : rs (pS F5_init) (pW F5_init) (pK F5_init) (pB F5_init).2 F11_init := ⟨by decide +kernel, by decide +kernel, by decide +kernel, by decide +kernel, in_K, by decide +kernel, in_bS, in_bW, in_bK, by unfold bB; decide +kernel⟩
theorem in_bP : bP 1000 (pP F5_init) := ⟨by decide +kernel, by unfold cb; decide +kernel, by unfold cb; decide +kernel, by unfold cb; decide +kernel, by unfold cb; decide +kernel, by decide +kernel⟩
theorem in_bA : bA 1000 (pA F5_init) := ⟨by unfold cb; decide +kernel, by unfold cb; decide +kernel, by unfold cb; decide +kernel⟩
theorem in_rd : rd 1000 (pB F5_init).1 (pP F5_init) (pA F5_init) (pT F5_init) F11_init := ⟨by decide +kernel, by decide +kernel, by decide +kernel, by decide +kernel, by decide +kernel, by decide +kernel, by decide +kernel, by decide +kernel, by decide +kernel, by decide +kernel, by decide +kernel, by decide +kernel, by decide +kernel, by decide +kernel, by decide +kernel, by decide +kernel, by decide +kernel, by decide +kernel, fun h => absurd h (by decide +kernel), in_bP, in_bA⟩
theorem in_r : rM F5_init 0 0 (fun _ => F5_init) F9_init ((0, 0, 0, (0 : Int32), (0 : Int32), (0 : Int32), (0 : Int32), (0 : Int32)) : MoN) F11_init (fun _ => 0) := by
  have e : (pT F5_init).toInt = 0 := by decide +kernel
  refine ⟨⟨in_rs, ?_, by rw [e]; exact Int.le_refl _, by rw [e]; omega⟩, fun i hi => absurd hi (Nat.not_lt_zero i), ⟨by omega, by omega, rfl⟩, rfl, rfl, Nat.zero_le _, fun j hj => absurd hj (Nat.not_lt_zero j)⟩
  rw [e]
  exact in_rd
