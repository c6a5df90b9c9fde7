/-- recording keeps the relation -/
theorem rec_rel {o k : Nat} {h : Nat → PlS} {u : PlS} {f : Nat → Int64} {x0 : MoN} (ho : o < 4) (hk : k ≤ 4) (hx : x0.1 = k) (hu : rl 100000 u f) (hh : rH o k h f) :
    (F4_record o k h u).1 = (F11_records x0 f).1 ∧ (F11_records x0 f).2.1.1 = (F4_record o k h u).2.1.2 ∧ (F4_record o k h u).2.1.1 < 4 ∧ (F4_record o k h u).2.1.2 ≤ 4 ∧ rl 100000 u (F11_records x0 f).2.2 ∧ rH (F4_record o k h u).2.1.1 (F4_record o k h u).2.1.2 (F4_record o k h u).2.2 (F11_records x0 f).2.2 := by
  have hu' : rl 100000 u (F11_records x0 f).2.2 := rl_of hu (fun j hj => rec_o x0 f j hj)
  refine ⟨?_, ?_, ?_, ?_, hu', ?_⟩
  · unfold F4_record F11_records
    rw [hx]
    split
    · unfold K11_records_2 K11_records_3 K11_records_4 K11_records_5
      rw [hx]
    · unfold K11_records_1
      rw [hx]
  · unfold F4_record F11_records
    rw [hx]
    split
    · unfold K11_records_2 K11_records_3 K11_records_4 K11_records_5
      rw [hx]
    · unfold K11_records_1
      rw [hx]
  · unfold F4_record
    split
    · exact Nat.mod_lt _ (by omega)
    · exact ho
  · unfold F4_record
    split
    · show (k - 1) + 1 ≤ 4
      omega
    · show k + 1 ≤ 4
      omega
  · unfold F4_record F11_records
    rw [hx]
    by_cases h4 : k = 4
    · rw [if_pos h4, if_pos h4]
      subst h4
      intro i hi
      have hi : i < 4 := hi
      unfold K11_records_2 K11_records_3 K11_records_4 K11_records_5
      rw [hx]
      show rl 100000 (w_up h (((o + 1) % 4 + 3) % 4) _ (((o + 1) % 4 + i) % 4)) (fun j => w_ms (w_ms (w_ms (w_ms f 348 174 174) 522 348 174) 696 522 174) 0 696 174 (174 * (i + 1) + j))
      unfold w_up
      by_cases h3 : i = 3
      · subst h3
        rw [if_pos rfl]
        refine rl_of (rl_cpy hu) (fun j hj => ?_)
        show w_ms _ 0 696 174 (696 + j) = f j
        rw [ms_i _ _ _ _ _ hj, Nat.zero_add, ms_o _ _ _ _ _ (by omega), ms_o _ _ _ _ _ (by omega), ms_o _ _ _ _ _ (by omega)]
      · rw [if_neg (by omega)]
        have e : ((o + 1) % 4 + i) % 4 = (o + (i + 1)) % 4 := by omega
        rw [e]
        refine rl_of (hh (i + 1) (by omega)) (fun j hj => ?_)
        show w_ms _ 0 696 174 (174 * (i + 1) + j) = f (174 * (i + 1 + 1) + j)
        rw [ms_o _ 0 696 _ _ (by omega)]
        rcases (show i = 0 ∨ i = 1 ∨ i = 2 by omega) with rfl | rfl | rfl
        · rw [ms_o _ 696 522 _ _ (by omega), ms_o _ 522 348 _ _ (by omega)]
          exact ms_i f 348 174 174 j hj
        · rw [ms_o _ 696 522 _ _ (by omega)]
          refine (ms_i _ 522 348 174 j hj).trans ?_
          exact ms_o f 348 174 174 _ (by omega)
        · refine (ms_i _ 696 522 174 j hj).trans ?_
          rw [ms_o _ 522 348 _ _ (by omega)]
          exact ms_o f 348 174 174 _ (by omega)
    · rw [if_neg h4, if_neg h4]
      intro i hi
      have hi : i < k + 1 := hi
      unfold K11_records_1
      rw [hx]
      show rl 100000 (w_up h ((o + k) % 4) _ ((o + i) % 4)) (fun j => w_ms f 0 (174 * (k + 1)) 174 (174 * (i + 1) + j))
      unfold w_up
      by_cases hik : i = k
      · subst hik
        rw [if_pos rfl]
        refine rl_of (rl_cpy hu) (fun j hj => ?_)
        show w_ms f 0 (174 * (i + 1)) 174 (174 * (i + 1) + j) = f j
        rw [ms_i _ _ _ _ _ hj, Nat.zero_add]
      · rw [if_neg (by omega)]
        refine rl_of (hh i (by omega)) (fun j hj => ?_)
        exact ms_o _ _ _ _ _ (by omega)
