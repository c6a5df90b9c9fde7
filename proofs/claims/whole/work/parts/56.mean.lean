/-! the mean percentage: whichever NaN was drawn -/
theorem na_d {b : UInt64} (h : isNaN64 b = true) : FP.Core.decode FP.Core.b64 b.toNat = .nan := by
  unfold isNaN64 at h
  have h1 := of_decide_eq_true h
  have h2 : (b &&& 0x7fffffffffffffff).toNat > (0x7ff0000000000000 : UInt64).toNat := UInt64.lt_iff_toNat_lt.mp h1
  rw [UInt64.toNat_and, show (0x7fffffffffffffff : UInt64).toNat = 2 ^ 63 - 1 from by decide, Nat.and_two_pow_sub_one_eq_mod, show (0x7ff0000000000000 : UInt64).toNat = 9218868437227405312 from by decide] at h2
  unfold FP.Core.decode FP.Core.fieldE FP.Core.fieldT
  rw [show FP.Core.b64.tails = 4503599627370496 from by decide, show FP.Core.b64.exps = 2048 from by decide]
  generalize b.toNat = n at h2
  rw [if_pos (by omega), if_neg (by omega)]
theorem na_e {a b : UInt64} (h : alike64 a b = true) : a = b ∨ (FP.Core.decode FP.Core.b64 a.toNat = .nan ∧ FP.Core.decode FP.Core.b64 b.toNat = .nan) := by
  unfold alike64 at h
  rcases Bool.or_eq_true_iff.mp h with h | h
  · exact Or.inl (of_decide_eq_true h)
  · obtain ⟨h1, h2⟩ := Bool.and_eq_true_iff.mp h
    exact Or.inr ⟨na_d h1, na_d h2⟩
theorem na_o {d : FP.Core.Datum} (h : ¬ d = .nan) : FP.Core.order d d = some .eq := by
  cases d with
  | nan => exact absurd rfl h
  | inf s => simp [FP.Core.order]
  | fin s c q => simp [FP.Core.order]
theorem na_0 {a : UInt64} (h : FP.Core.decode FP.Core.b64 a.toNat = .nan) : ¬ Op.cmpValue (FP.dcmp a a) .l = 0 := by
  have e : FP.dcmp a a = none := by
    show FP.Core.order (FP.Core.decode FP.Core.b64 a.toNat) (FP.Core.decode FP.Core.b64 a.toNat) = none
    rw [h]
    rfl
  rw [e]
  decide
theorem na_1 {a : UInt64} (h : ¬ FP.Core.decode FP.Core.b64 a.toNat = .nan) : Op.cmpValue (FP.dcmp a a) .l = 0 := by
  have e : FP.dcmp a a = some .eq := na_o h
  rw [e]
  rfl
theorem na_m {el pr : Int64} {r1 r2 : UInt64} (h1 : mPc el pr r1) (h2 : mPc el pr r2) : Op.cmpValue (FP.dcmp r1 r2) .l = 0 ∨ (¬ Op.cmpValue (FP.dcmp r1 r1) .l = 0 ∧ ¬ Op.cmpValue (FP.dcmp r2 r2) .l = 0) := by
  unfold mPc at h1 h2
  by_cases c : el = 0
  · rw [if_pos c] at h1 h2
    subst h1
    subst h2
    exact Or.inl (by decide +kernel)
  · rw [if_neg c] at h1 h2
    obtain ⟨x1, a1, b1⟩ := h1
    obtain ⟨x2, a2, b2⟩ := h2
    have e : FP.ddiv x1 (FP.l2d el) = FP.ddiv x2 (FP.l2d el) := by
      have e : FP.Core.decode FP.Core.b64 x1.toNat = FP.Core.decode FP.Core.b64 x2.toNat := by
        rcases na_e a1 with q1 | ⟨q1, q1'⟩ <;> rcases na_e a2 with q2 | ⟨q2, q2'⟩
        · rw [q1, q2]
        · rw [q1, q2, q2']
        · rw [q2, q1, q1']
        · rw [q1, q2]
      show UInt64.ofNat (FP.Core.encode FP.Core.b64 (FP.Core.quotient FP.Core.b64 (FP.Core.decode FP.Core.b64 x1.toNat) _)) = UInt64.ofNat (FP.Core.encode FP.Core.b64 (FP.Core.quotient FP.Core.b64 (FP.Core.decode FP.Core.b64 x2.toNat) _))
      rw [e]
    rw [← e] at b2
    generalize FP.ddiv x1 (FP.l2d el) = d at b1 b2
    by_cases hd : FP.Core.decode FP.Core.b64 d.toNat = .nan
    · refine Or.inr ⟨?_, ?_⟩
      · rcases na_e b1 with q | ⟨q, -⟩
        · rw [q]; exact na_0 hd
        · exact na_0 q
      · rcases na_e b2 with q | ⟨q, -⟩
        · rw [q]; exact na_0 hd
        · exact na_0 q
    · rcases na_e b1 with q | ⟨-, q⟩
      · rcases na_e b2 with q' | ⟨-, q'⟩
        · rw [q, q']
          exact Or.inl (na_1 hd)
        · exact absurd q' hd
      · exact absurd q hd
