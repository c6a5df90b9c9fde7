/-- undoing keeps the relation -/
theorem undo_rel {o k : Nat} {h : Nat → PlS} {u : PlS} {f : Nat → Int64} {x0 : MoN} (hx : x0.1 = k) (hu : rl 100000 u f) (hh : rH o k h f) :
    (F10_undo u o k h).1 = (F11_undo x0 f).1 ∧ (F11_undo x0 f).2.1.1 = (F10_undo u o k h).2.2.1.2 ∧ (F11_undo x0 f).2.1.2 = x0.2 ∧ (F10_undo u o k h).2.2.1.1 = o ∧ (F10_undo u o k h).2.2.1.2 ≤ k ∧ rl 100000 (F10_undo u o k h).2.1 (F11_undo x0 f).2.2 ∧ rH (F10_undo u o k h).2.2.1.1 (F10_undo u o k h).2.2.1.2 (F10_undo u o k h).2.2.2 (F11_undo x0 f).2.2 := by
  unfold F10_undo K10_undo_1 F4_restore F11_undo
  rw [hx]
  by_cases h0 : k = 0
  · rw [if_pos h0, if_pos h0]
    exact ⟨rfl, hx, rfl, rfl, Nat.le_refl _, hu, hh⟩
  · rw [if_neg h0, if_neg h0]
    unfold K11_undo_1
    rw [hx]
    refine ⟨rfl, rfl, rfl, rfl, Nat.sub_le _ _, ?_, fun i hi => ?_⟩
    · refine rl_of (rl_cpy (hh (k - 1) (by omega))) (fun j hj => ?_)
      have e := ms_i f (174 * k) 0 174 j hj
      rw [Nat.zero_add] at e
      show w_ms f (174 * k) 0 174 j = f (174 * (k - 1 + 1) + j)
      rw [e, show k - 1 + 1 = k by omega]
    · have hi : i < k - 1 := hi
      refine rl_of (hh i (by omega)) (fun j hj => ?_)
      exact ms_o _ _ _ _ _ (by omega)
