/-! what the class's reader reads -/
def cT (g : SS) (n a : Nat) (r : Int32 × Int32 × Int32 × Int32) : ST := (g, nI n, nI a, r)
/-- the codes that a text may hold -/
def cOk (g : SS) (n : Nat) : Prop := ∀ j, j < n → 32 ≤ (g j).toInt ∧ (g j).toInt ≤ 126
theorem ch_e (g : SS) {n a : Nat} (r : Int32 × Int32 × Int32 × Int32) (hn : n ≤ 100) (ha : a ≤ n) : F9_codeHere (cT g n a r) = if n ≤ a then 0 else g a := by
  unfold F9_codeHere
  show (if nI n ≤ nI a then (0 : Int32) else F10_elementOr 100 g (nI a) 0) = _
  by_cases h : n ≤ a
  · rw [if_pos h, if_pos ((nI_leI (by omega) (by omega)).mpr h)]
  · rw [if_neg h, if_neg (fun q => h ((nI_leI (by omega) (by omega)).mp q))]
    unfold F10_elementOr
    have h0 : ¬ nI a < 0 := fun q => by
      have := (nI_ltI (a := a) (b := 0) (by omega) (by omega)).mp q
      omega
    have h1 : ¬ nI 100 ≤ nI a := fun q => by
      have := (nI_leI (a := 100) (b := a) (by omega) (by omega)).mp q
      omega
    rw [if_neg h0, if_neg h1, nI_clamp (by omega)]
theorem ch_pk {g : SS} {n a : Nat} {r : Int32 × Int32 × Int32 × Int32} (hn : n ≤ 100) (ha : a ≤ n) (hg : cOk g n) {c : Int32} (h0 : 1 ≤ c.toInt) : F9_codeHere (cT g n a r) = c ↔ pk g n a = c := by
  rw [ch_e g r hn ha]
  unfold pk
  by_cases h : n ≤ a
  · rw [if_pos h, if_pos h]
    constructor
    · intro e; rw [← e] at h0; exact absurd h0 (by decide)
    · intro e; rw [← e] at h0; exact absurd h0 (by decide)
  · rw [if_neg h, if_neg h]
theorem ac_pos {g : SS} {n a : Nat} {r : Int32 × Int32 × Int32 × Int32} (hn : n ≤ 100) (ha : a ≤ n) (hg : cOk g n) {c : Int32} (h0 : 1 ≤ c.toInt) (h : pk g n a = c) : F9_accept (cT g n a r) c = (true, cT g n (a + 1) r) := by
  unfold F9_accept
  rw [if_pos ((ch_pk hn ha hg h0).mpr h)]
  show (true, (g, nI n, nI a + 1, r)) = _
  rw [nI_1]
  rfl
theorem ac_neg {g : SS} {n a : Nat} {r : Int32 × Int32 × Int32 × Int32} (hn : n ≤ 100) (ha : a ≤ n) (hg : cOk g n) {c : Int32} (h0 : 1 ≤ c.toInt) (h : ¬ pk g n a = c) : F9_accept (cT g n a r) c = (false, cT g n a r) := by
  unfold F9_accept
  rw [if_neg (fun q => h ((ch_pk hn ha hg h0).mp q))]
/-- a digit up to p -/
theorem pD_iff {g : SS} {n a : Nat} {p : Int32} (hp : 0 ≤ p.toInt) (hp9 : p.toInt ≤ 9) : pD g n a 0 p = true ↔ 48 ≤ (pk g n a).toInt ∧ (pk g n a).toInt ≤ 48 + p.toInt := by
  have e0 : ((48 : Int32) + 0).toInt = 48 := by decide
  have e1 : ((48 : Int32) + p).toInt = 48 + p.toInt := by
    rw [Int32.toInt_add, show (48 : Int32).toInt = 48 from by decide, w_bm (by omega) (by omega)]
  unfold pD F11_in
  have l1 : (pk g n a).toInt64 < ((48 : Int32) + 0).toInt64 ↔ (pk g n a).toInt < 48 := by
    rw [Int64.lt_iff_toInt_lt, Int32.toInt_toInt64, Int32.toInt_toInt64, e0]
  have l2 : ((48 : Int32) + p).toInt64 < (pk g n a).toInt64 ↔ 48 + p.toInt < (pk g n a).toInt := by
    rw [Int64.lt_iff_toInt_lt, Int32.toInt_toInt64, Int32.toInt_toInt64, e1]
  by_cases h1 : (pk g n a).toInt64 < ((48 : Int32) + 0).toInt64
  · rw [if_pos h1]
    have := l1.mp h1
    constructor
    · intro h; cases h
    · intro h; omega
  · rw [if_neg h1]
    have h1' : ¬ (pk g n a).toInt < 48 := fun q => h1 (l1.mpr q)
    by_cases h2 : ((48 : Int32) + p).toInt64 < (pk g n a).toInt64
    · rw [if_pos h2]
      have := l2.mp h2
      constructor
      · intro h; cases h
      · intro h; omega
    · rw [if_neg h2]
      have h2' : ¬ 48 + p.toInt < (pk g n a).toInt := fun q => h2 (l2.mpr q)
      exact ⟨fun _ => by omega, fun _ => rfl⟩
theorem rd_pos {g : SS} {n a : Nat} {r : Int32 × Int32 × Int32 × Int32} (hn : n ≤ 100) (ha : a ≤ n) {p : Int32} (hp : 0 ≤ p.toInt) (hp9 : p.toInt ≤ 9) (h : pD g n a 0 p = true) : F9_readDigit (cT g n a r) p = (pk g n a - 48, cT g n (a + 1) r) := by
  obtain ⟨h1, h2⟩ := (pD_iff hp hp9).mp h
  have hl : ¬ n ≤ a := fun q => by
    unfold pk at h1
    rw [if_pos q] at h1
    exact absurd h1 (by decide)
  have e : F9_codeHere (cT g n a r) = pk g n a := by
    rw [ch_e g r hn ha]
    unfold pk
    rw [if_neg hl, if_neg hl]
  have hd := w_dig h1 (by omega)
  unfold F9_readDigit
  rw [e, if_neg (w_i0 (by omega)), if_pos (Int32.le_iff_toInt_le.mpr (by omega))]
  show (pk g n a - 48, (g, nI n, nI a + 1, r)) = _
  rw [nI_1]
  rfl
theorem rd_neg {g : SS} {n a : Nat} {r : Int32 × Int32 × Int32 × Int32} (hn : n ≤ 100) (ha : a ≤ n) (hg : cOk g n) {p : Int32} (hp : 0 ≤ p.toInt) (hp9 : p.toInt ≤ 9) (h : ¬ pD g n a 0 p = true) : F9_readDigit (cT g n a r) p = (-1, cT g n a r) := by
  have h' : ¬ (48 ≤ (pk g n a).toInt ∧ (pk g n a).toInt ≤ 48 + p.toInt) := fun q => h ((pD_iff hp hp9).mpr q)
  unfold F9_readDigit
  rw [ch_e g r hn ha]
  by_cases hl : n ≤ a
  · rw [if_pos hl, if_pos (by decide)]
  · rw [if_neg hl]
    unfold pk at h'
    rw [if_neg hl] at h'
    obtain ⟨g1, g2⟩ := hg a (by omega)
    have hs : (g a - (48 : Int32)).toInt = (g a).toInt - 48 := by
      rw [Int32.toInt_sub, show (48 : Int32).toInt = 48 from by decide, w_bm (by omega) (by omega)]
    by_cases hd : g a - (48 : Int32) < 0
    · rw [if_pos hd]
    · rw [if_neg hd, if_neg]
      intro q
      have q1 := Int32.le_iff_toInt_le.mp q
      have q2 := Int32.le_iff_toInt_le.mp (Int32.not_lt.mp hd)
      rw [show (0 : Int32).toInt = 0 from by decide] at q2
      omega
