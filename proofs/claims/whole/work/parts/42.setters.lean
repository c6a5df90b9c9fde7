theorem wS_f {s t : SS} : ∀ n, (∀ j, j < n → s j = t j) → wS s n = wS t n := by
  intro n
  induction n with
  | zero => intro _; rfl
  | succ n ih =>
    intro h
    show wS s n + s n = wS t n + t n
    rw [ih (fun j hj => h j (by omega)), h n (by omega)]
theorem wS_u (s : SS) (x : Int32) {k : Nat} : ∀ n, k < n → wS (upd s k x) n = wS s n + (x - s k) := by
  intro n
  induction n with
  | zero => intro h; exact absurd h (by omega)
  | succ n ih =>
    intro h
    show wS (upd s k x) n + upd s k x n = wS s n + s n + (x - s k)
    by_cases e : n = k
    · subst e
      rw [show upd s n x n = x from if_pos rfl, wS_f (s := upd s n x) (t := s) n (fun j hj => if_neg (by omega)), Int32.add_assoc, show s n + (x - s n) = x from by rw [Int32.add_comm, Int32.sub_add_cancel]]
    · rw [show upd s k x n = s n from if_neg e, ih (by omega), Int32.add_assoc, Int32.add_assoc, Int32.add_comm (x - s k) (s n)]
theorem cb_m {N N' : Int} {x : Int32} (h : cb N x) (hn : N ≤ N') : cb N' x := ⟨h.1, Int.le_trans h.2 hn⟩
theorem cb_0 {N : Int} (h : 0 ≤ N) : cb N 0 := ⟨by decide, h⟩
theorem cb_1 {N : Int} {x : Int32} (h : cb N x) (hn : N < 2000000000) : cb (N + 1) (x + 1) ∧ (x + 1).toInt64 = x.toInt64 + 1 := by
  obtain ⟨h1, h2⟩ := h
  have e : (x + 1).toInt = x.toInt + 1 := ar_a32 (by rw [show (1 : Int32).toInt = 1 from by decide]; omega) (by rw [show (1 : Int32).toInt = 1 from by decide]; omega)
  refine ⟨⟨by omega, by omega⟩, (ar_e ?_).symm⟩
  rw [e, ar_a64, Int32.toInt_toInt64]
  · rfl
  · rw [Int32.toInt_toInt64, show (1 : Int64).toInt = 1 from by decide]
    omega
  · rw [Int32.toInt_toInt64, show (1 : Int64).toInt = 1 from by decide]
    omega
theorem rd_m {N N' : Int} {E : Nat → Int64} {P : SP} {A : SA} {T : Int32} {f : Nat → Int64} (h : rd N E P A T f) (hn : N ≤ N') : rd N' E P A T f := by
  obtain ⟨h7, h8, h9, h10, h11, h12, h13, h14, h15, h16, h17, h18, h19, h20, h21, h22, h23, h24, h25, ⟨g1, g2, g3, g4, g5, g6⟩, ⟨k1, k2, k3⟩⟩ := h
  exact ⟨h7, h8, h9, h10, h11, h12, h13, h14, h15, h16, h17, h18, h19, h20, h21, h22, h23, h24, h25, ⟨g1, cb_m g2 hn, cb_m g3 hn, cb_m g4 hn, cb_m g5 hn, g6⟩, ⟨fun j hj => cb_m (k1 j hj) hn, cb_m k2 hn, cb_m k3 hn⟩⟩
/-! one cell of the row is set: the relation for the plant with that part set -/
section T
variable {N : Int} {E : Nat → Int64} {P : SP} {A : SA} {T : Int32} {f : Nat → Int64}
theorem rd_86 (h : rd N E P A T f) {x : Int32} {v : Int64} (hv : v = x.toInt64) (hx : 0 ≤ x.toInt ∧ x.toInt ≤ 2) (h2 : v = 2 → f 91 - f 90 = P.2.2.2.1.toInt64) : rd N E (x, P.2) A T (vp_updL f 86 v) := by
  obtain ⟨h7, h8, h9, h10, h11, h12, h13, h14, h15, h16, h17, h18, h19, h20, h21, h22, h23, h24, h25, h26, h27⟩ := h
  obtain ⟨g1, g2, g3, g4, g5, g6⟩ := h26
  exact ⟨fun j hj => (w_ro (by omega)).trans (h7 j hj), (w_rds _ _ _).trans hv, (w_ro (by omega)).trans h9, (w_ro (by omega)).trans h10, (w_ro (by omega)).trans h11, (w_ro (by omega)).trans h12, (w_ro (by omega)).trans h13, fun j hj => (w_ro (by omega)).trans (h14 j hj), (w_ro (by omega)).trans h15, (w_ro (by omega)).trans h16, (w_ro (by omega)).trans h17, (w_ro (by omega)).trans h18, (w_ro (by omega)).trans h19, (w_ro (by omega)).trans h20, (w_ro (by omega)).trans h21, (w_ro (by omega)).trans h22, (w_ro (by omega)).trans h23, fun j hj => (w_ro (by omega)).trans (h24 j hj), fun hm => by rw [w_rds] at hm; rw [w_ro (show 91 ≠ 86 by omega), w_ro (show 90 ≠ 86 by omega)]; exact h2 hm, ⟨hx, g2, g3, g4, g5, g6⟩, h27⟩
theorem rd_87 (h : rd N E P A T f) {x : Int32} {v : Int64} (hv : v = x.toInt64) (hx : cb N x) : rd N E (P.1, x, P.2.2) A T (vp_updL f 87 v) := by
  obtain ⟨h7, h8, h9, h10, h11, h12, h13, h14, h15, h16, h17, h18, h19, h20, h21, h22, h23, h24, h25, h26, h27⟩ := h
  obtain ⟨g1, g2, g3, g4, g5, g6⟩ := h26
  exact ⟨fun j hj => (w_ro (by omega)).trans (h7 j hj), (w_ro (by omega)).trans h8, (w_rds _ _ _).trans hv, (w_ro (by omega)).trans h10, (w_ro (by omega)).trans h11, (w_ro (by omega)).trans h12, (w_ro (by omega)).trans h13, fun j hj => (w_ro (by omega)).trans (h14 j hj), (w_ro (by omega)).trans h15, (w_ro (by omega)).trans h16, (w_ro (by omega)).trans h17, (w_ro (by omega)).trans h18, (w_ro (by omega)).trans h19, (w_ro (by omega)).trans h20, (w_ro (by omega)).trans h21, (w_ro (by omega)).trans h22, (w_ro (by omega)).trans h23, fun j hj => (w_ro (by omega)).trans (h24 j hj), fun hm => by rw [w_ro (show 91 ≠ 87 by omega), w_ro (show 90 ≠ 87 by omega)]; exact h25 ((w_ro (show 86 ≠ 87 by omega)).symm.trans hm), ⟨g1, hx, g3, g4, g5, g6⟩, h27⟩
theorem rd_88 (h : rd N E P A T f) {x : Int32} {v : Int64} (hv : v = x.toInt64) (hx : cb N x) : rd N E (P.1, P.2.1, x, P.2.2.2) A T (vp_updL f 88 v) := by
  obtain ⟨h7, h8, h9, h10, h11, h12, h13, h14, h15, h16, h17, h18, h19, h20, h21, h22, h23, h24, h25, h26, h27⟩ := h
  obtain ⟨g1, g2, g3, g4, g5, g6⟩ := h26
  exact ⟨fun j hj => (w_ro (by omega)).trans (h7 j hj), (w_ro (by omega)).trans h8, (w_ro (by omega)).trans h9, (w_rds _ _ _).trans hv, (w_ro (by omega)).trans h11, (w_ro (by omega)).trans h12, (w_ro (by omega)).trans h13, fun j hj => (w_ro (by omega)).trans (h14 j hj), (w_ro (by omega)).trans h15, (w_ro (by omega)).trans h16, (w_ro (by omega)).trans h17, (w_ro (by omega)).trans h18, (w_ro (by omega)).trans h19, (w_ro (by omega)).trans h20, (w_ro (by omega)).trans h21, (w_ro (by omega)).trans h22, (w_ro (by omega)).trans h23, fun j hj => (w_ro (by omega)).trans (h24 j hj), fun hm => by rw [w_ro (show 91 ≠ 88 by omega), w_ro (show 90 ≠ 88 by omega)]; exact h25 ((w_ro (show 86 ≠ 88 by omega)).symm.trans hm), ⟨g1, g2, hx, g4, g5, g6⟩, h27⟩
theorem rd_89 (h : rd N E P A T f) {x : Int32} {v : Int64} (hv : v = x.toInt64) (hx : cb N x) : rd N E (P.1, P.2.1, P.2.2.1, P.2.2.2.1, x, P.2.2.2.2.2) A T (vp_updL f 89 v) := by
  obtain ⟨h7, h8, h9, h10, h11, h12, h13, h14, h15, h16, h17, h18, h19, h20, h21, h22, h23, h24, h25, h26, h27⟩ := h
  obtain ⟨g1, g2, g3, g4, g5, g6⟩ := h26
  exact ⟨fun j hj => (w_ro (by omega)).trans (h7 j hj), (w_ro (by omega)).trans h8, (w_ro (by omega)).trans h9, (w_ro (by omega)).trans h10, (w_rds _ _ _).trans hv, (w_ro (by omega)).trans h12, (w_ro (by omega)).trans h13, fun j hj => (w_ro (by omega)).trans (h14 j hj), (w_ro (by omega)).trans h15, (w_ro (by omega)).trans h16, (w_ro (by omega)).trans h17, (w_ro (by omega)).trans h18, (w_ro (by omega)).trans h19, (w_ro (by omega)).trans h20, (w_ro (by omega)).trans h21, (w_ro (by omega)).trans h22, (w_ro (by omega)).trans h23, fun j hj => (w_ro (by omega)).trans (h24 j hj), fun hm => by rw [w_ro (show 91 ≠ 89 by omega), w_ro (show 90 ≠ 89 by omega)]; exact h25 ((w_ro (show 86 ≠ 89 by omega)).symm.trans hm), ⟨g1, g2, g3, g4, hx, g6⟩, h27⟩
theorem rd_91 (h : rd N E P A T f) {x d : Int32} {v : Int64} (hv : v = x.toInt64) (hx : cb N d) (h2 : f 86 = 2 → v - f 90 = d.toInt64) : rd N E (P.1, P.2.1, P.2.2.1, d, P.2.2.2.2) A x (vp_updL f 91 v) := by
  obtain ⟨h7, h8, h9, h10, h11, h12, h13, h14, h15, h16, h17, h18, h19, h20, h21, h22, h23, h24, h25, h26, h27⟩ := h
  obtain ⟨g1, g2, g3, g4, g5, g6⟩ := h26
  exact ⟨fun j hj => (w_ro (by omega)).trans (h7 j hj), (w_ro (by omega)).trans h8, (w_ro (by omega)).trans h9, (w_ro (by omega)).trans h10, (w_ro (by omega)).trans h11, (w_rds _ _ _).trans hv, (w_ro (by omega)).trans h13, fun j hj => (w_ro (by omega)).trans (h14 j hj), (w_ro (by omega)).trans h15, (w_ro (by omega)).trans h16, (w_ro (by omega)).trans h17, (w_ro (by omega)).trans h18, (w_ro (by omega)).trans h19, (w_ro (by omega)).trans h20, (w_ro (by omega)).trans h21, (w_ro (by omega)).trans h22, (w_ro (by omega)).trans h23, fun j hj => (w_ro (by omega)).trans (h24 j hj), fun hm => by rw [w_rds, w_ro (show 90 ≠ 91 by omega)]; exact h2 ((w_ro (show 86 ≠ 91 by omega)).symm.trans hm), ⟨g1, g2, g3, hx, g5, g6⟩, h27⟩
theorem rd_92 (h : rd N E P A T f) {x : Int32} {v : Int64} (hv : v = x.toInt64) : rd N E P (A.1, x, A.2.2) T (vp_updL f 92 v) := by
  obtain ⟨h7, h8, h9, h10, h11, h12, h13, h14, h15, h16, h17, h18, h19, h20, h21, h22, h23, h24, h25, h26, h27⟩ := h
  exact ⟨fun j hj => (w_ro (by omega)).trans (h7 j hj), (w_ro (by omega)).trans h8, (w_ro (by omega)).trans h9, (w_ro (by omega)).trans h10, (w_ro (by omega)).trans h11, (w_ro (by omega)).trans h12, (w_rds _ _ _).trans hv, fun j hj => (w_ro (by omega)).trans (h14 j hj), (w_ro (by omega)).trans h15, (w_ro (by omega)).trans h16, (w_ro (by omega)).trans h17, (w_ro (by omega)).trans h18, (w_ro (by omega)).trans h19, (w_ro (by omega)).trans h20, (w_ro (by omega)).trans h21, (w_ro (by omega)).trans h22, (w_ro (by omega)).trans h23, fun j hj => (w_ro (by omega)).trans (h24 j hj), fun hm => by rw [w_ro (show 91 ≠ 92 by omega), w_ro (show 90 ≠ 92 by omega)]; exact h25 ((w_ro (show 86 ≠ 92 by omega)).symm.trans hm), h26, h27⟩
theorem rd_93 (h : rd N E P A T f) {k : Nat} {x : Int32} {v : Int64} (hk : k < 12) (hv : v = x.toInt64) (hx : cb N x) : rd N E P (upd A.1 k x, A.2) T (vp_updL f (93 + k) v) := by
  obtain ⟨h7, h8, h9, h10, h11, h12, h13, h14, h15, h16, h17, h18, h19, h20, h21, h22, h23, h24, h25, h26, h27⟩ := h
  obtain ⟨g1, g2, g3⟩ := h27
  exact ⟨fun j hj => (w_ro (by omega)).trans (h7 j hj), (w_ro (by omega)).trans h8, (w_ro (by omega)).trans h9, (w_ro (by omega)).trans h10, (w_ro (by omega)).trans h11, (w_ro (by omega)).trans h12, (w_ro (by omega)).trans h13, fun j hj => by
    by_cases e : j = k
    · subst e
      exact (w_rds _ _ _).trans (hv.trans (congrArg Int32.toInt64 (show x = upd A.1 j x j from (if_pos rfl).symm)))
    · rw [w_ro (show 93 + j ≠ 93 + k by omega), h14 j hj]
      exact congrArg Int32.toInt64 (show _ = upd A.1 k x j from (if_neg e).symm), (w_ro (by omega)).trans h15, (w_ro (by omega)).trans h16, (w_ro (by omega)).trans h17, (w_ro (by omega)).trans h18, (w_ro (by omega)).trans h19, (w_ro (by omega)).trans h20, (w_ro (by omega)).trans h21, (w_ro (by omega)).trans h22, (w_ro (by omega)).trans h23, fun j hj => (w_ro (by omega)).trans (h24 j hj), fun hm => by rw [w_ro (show 91 ≠ (93 + k) by omega), w_ro (show 90 ≠ (93 + k) by omega)]; exact h25 ((w_ro (show 86 ≠ (93 + k) by omega)).symm.trans hm), h26, ⟨fun j hj => by
    show cb N (upd A.1 k x j)
    by_cases e : j = k
    · rw [show upd A.1 k x j = x from if_pos e]
      exact hx
    · rw [show upd A.1 k x j = A.1 j from if_neg e]
      exact g1 j hj, g2, g3⟩⟩
theorem rd_105 (h : rd N E P A T f) {x : Int32} {v : Int64} (hv : v = x.toInt64) (hx : cb N x) : rd N E P (A.1, A.2.1, x, A.2.2.2) T (vp_updL f 105 v) := by
  obtain ⟨h7, h8, h9, h10, h11, h12, h13, h14, h15, h16, h17, h18, h19, h20, h21, h22, h23, h24, h25, h26, h27⟩ := h
  obtain ⟨g1, g2, g3⟩ := h27
  exact ⟨fun j hj => (w_ro (by omega)).trans (h7 j hj), (w_ro (by omega)).trans h8, (w_ro (by omega)).trans h9, (w_ro (by omega)).trans h10, (w_ro (by omega)).trans h11, (w_ro (by omega)).trans h12, (w_ro (by omega)).trans h13, fun j hj => (w_ro (by omega)).trans (h14 j hj), (w_rds _ _ _).trans hv, (w_ro (by omega)).trans h16, (w_ro (by omega)).trans h17, (w_ro (by omega)).trans h18, (w_ro (by omega)).trans h19, (w_ro (by omega)).trans h20, (w_ro (by omega)).trans h21, (w_ro (by omega)).trans h22, (w_ro (by omega)).trans h23, fun j hj => (w_ro (by omega)).trans (h24 j hj), fun hm => by rw [w_ro (show 91 ≠ 105 by omega), w_ro (show 90 ≠ 105 by omega)]; exact h25 ((w_ro (show 86 ≠ 105 by omega)).symm.trans hm), h26, ⟨g1, hx, g3⟩⟩
theorem rd_106 (h : rd N E P A T f) {x : Int32} {v : Int64} (hv : v = x.toInt64) (hx : cb N x) : rd N E P (A.1, A.2.1, A.2.2.1, x, A.2.2.2.2) T (vp_updL f 106 v) := by
  obtain ⟨h7, h8, h9, h10, h11, h12, h13, h14, h15, h16, h17, h18, h19, h20, h21, h22, h23, h24, h25, h26, h27⟩ := h
  obtain ⟨g1, g2, g3⟩ := h27
  exact ⟨fun j hj => (w_ro (by omega)).trans (h7 j hj), (w_ro (by omega)).trans h8, (w_ro (by omega)).trans h9, (w_ro (by omega)).trans h10, (w_ro (by omega)).trans h11, (w_ro (by omega)).trans h12, (w_ro (by omega)).trans h13, fun j hj => (w_ro (by omega)).trans (h14 j hj), (w_ro (by omega)).trans h15, (w_rds _ _ _).trans hv, (w_ro (by omega)).trans h17, (w_ro (by omega)).trans h18, (w_ro (by omega)).trans h19, (w_ro (by omega)).trans h20, (w_ro (by omega)).trans h21, (w_ro (by omega)).trans h22, (w_ro (by omega)).trans h23, fun j hj => (w_ro (by omega)).trans (h24 j hj), fun hm => by rw [w_ro (show 91 ≠ 106 by omega), w_ro (show 90 ≠ 106 by omega)]; exact h25 ((w_ro (show 86 ≠ 106 by omega)).symm.trans hm), h26, ⟨g1, g2, hx⟩⟩
theorem rd_107 (h : rd N E P A T f) {x v : Int64} (hv : v = x) : rd N E P (A.1, A.2.1, A.2.2.1, A.2.2.2.1, x, A.2.2.2.2.2) T (vp_updL f 107 v) := by
  obtain ⟨h7, h8, h9, h10, h11, h12, h13, h14, h15, h16, h17, h18, h19, h20, h21, h22, h23, h24, h25, h26, h27⟩ := h
  exact ⟨fun j hj => (w_ro (by omega)).trans (h7 j hj), (w_ro (by omega)).trans h8, (w_ro (by omega)).trans h9, (w_ro (by omega)).trans h10, (w_ro (by omega)).trans h11, (w_ro (by omega)).trans h12, (w_ro (by omega)).trans h13, fun j hj => (w_ro (by omega)).trans (h14 j hj), (w_ro (by omega)).trans h15, (w_ro (by omega)).trans h16, (w_rds _ _ _).trans hv, (w_ro (by omega)).trans h18, (w_ro (by omega)).trans h19, (w_ro (by omega)).trans h20, (w_ro (by omega)).trans h21, (w_ro (by omega)).trans h22, (w_ro (by omega)).trans h23, fun j hj => (w_ro (by omega)).trans (h24 j hj), fun hm => by rw [w_ro (show 91 ≠ 107 by omega), w_ro (show 90 ≠ 107 by omega)]; exact h25 ((w_ro (show 86 ≠ 107 by omega)).symm.trans hm), h26, h27⟩
theorem rd_108 (h : rd N E P A T f) {x v : Int64} (hv : v = x) : rd N E P (A.1, A.2.1, A.2.2.1, A.2.2.2.1, A.2.2.2.2.1, x, A.2.2.2.2.2.2) T (vp_updL f 108 v) := by
  obtain ⟨h7, h8, h9, h10, h11, h12, h13, h14, h15, h16, h17, h18, h19, h20, h21, h22, h23, h24, h25, h26, h27⟩ := h
  exact ⟨fun j hj => (w_ro (by omega)).trans (h7 j hj), (w_ro (by omega)).trans h8, (w_ro (by omega)).trans h9, (w_ro (by omega)).trans h10, (w_ro (by omega)).trans h11, (w_ro (by omega)).trans h12, (w_ro (by omega)).trans h13, fun j hj => (w_ro (by omega)).trans (h14 j hj), (w_ro (by omega)).trans h15, (w_ro (by omega)).trans h16, (w_ro (by omega)).trans h17, (w_rds _ _ _).trans hv, (w_ro (by omega)).trans h19, (w_ro (by omega)).trans h20, (w_ro (by omega)).trans h21, (w_ro (by omega)).trans h22, (w_ro (by omega)).trans h23, fun j hj => (w_ro (by omega)).trans (h24 j hj), fun hm => by rw [w_ro (show 91 ≠ 108 by omega), w_ro (show 90 ≠ 108 by omega)]; exact h25 ((w_ro (show 86 ≠ 108 by omega)).symm.trans hm), h26, h27⟩
theorem rd_109 (h : rd N E P A T f) {x v : Int64} (hv : v = x) : rd N E P (A.1, A.2.1, A.2.2.1, A.2.2.2.1, A.2.2.2.2.1, A.2.2.2.2.2.1, x, A.2.2.2.2.2.2.2) T (vp_updL f 109 v) := by
  obtain ⟨h7, h8, h9, h10, h11, h12, h13, h14, h15, h16, h17, h18, h19, h20, h21, h22, h23, h24, h25, h26, h27⟩ := h
  exact ⟨fun j hj => (w_ro (by omega)).trans (h7 j hj), (w_ro (by omega)).trans h8, (w_ro (by omega)).trans h9, (w_ro (by omega)).trans h10, (w_ro (by omega)).trans h11, (w_ro (by omega)).trans h12, (w_ro (by omega)).trans h13, fun j hj => (w_ro (by omega)).trans (h14 j hj), (w_ro (by omega)).trans h15, (w_ro (by omega)).trans h16, (w_ro (by omega)).trans h17, (w_ro (by omega)).trans h18, (w_rds _ _ _).trans hv, (w_ro (by omega)).trans h20, (w_ro (by omega)).trans h21, (w_ro (by omega)).trans h22, (w_ro (by omega)).trans h23, fun j hj => (w_ro (by omega)).trans (h24 j hj), fun hm => by rw [w_ro (show 91 ≠ 109 by omega), w_ro (show 90 ≠ 109 by omega)]; exact h25 ((w_ro (show 86 ≠ 109 by omega)).symm.trans hm), h26, h27⟩
theorem rd_110 (h : rd N E P A T f) {x v : Int64} (hv : v = x) : rd N E P (A.1, A.2.1, A.2.2.1, A.2.2.2.1, A.2.2.2.2.1, A.2.2.2.2.2.1, A.2.2.2.2.2.2.1, x, A.2.2.2.2.2.2.2.2) T (vp_updL f 110 v) := by
  obtain ⟨h7, h8, h9, h10, h11, h12, h13, h14, h15, h16, h17, h18, h19, h20, h21, h22, h23, h24, h25, h26, h27⟩ := h
  exact ⟨fun j hj => (w_ro (by omega)).trans (h7 j hj), (w_ro (by omega)).trans h8, (w_ro (by omega)).trans h9, (w_ro (by omega)).trans h10, (w_ro (by omega)).trans h11, (w_ro (by omega)).trans h12, (w_ro (by omega)).trans h13, fun j hj => (w_ro (by omega)).trans (h14 j hj), (w_ro (by omega)).trans h15, (w_ro (by omega)).trans h16, (w_ro (by omega)).trans h17, (w_ro (by omega)).trans h18, (w_ro (by omega)).trans h19, (w_rds _ _ _).trans hv, (w_ro (by omega)).trans h21, (w_ro (by omega)).trans h22, (w_ro (by omega)).trans h23, fun j hj => (w_ro (by omega)).trans (h24 j hj), fun hm => by rw [w_ro (show 91 ≠ 110 by omega), w_ro (show 90 ≠ 110 by omega)]; exact h25 ((w_ro (show 86 ≠ 110 by omega)).symm.trans hm), h26, h27⟩
theorem rd_111 (h : rd N E P A T f) {x v : Int64} (hv : v = x) : rd N E P (A.1, A.2.1, A.2.2.1, A.2.2.2.1, A.2.2.2.2.1, A.2.2.2.2.2.1, A.2.2.2.2.2.2.1, A.2.2.2.2.2.2.2.1, x, A.2.2.2.2.2.2.2.2.2) T (vp_updL f 111 v) := by
  obtain ⟨h7, h8, h9, h10, h11, h12, h13, h14, h15, h16, h17, h18, h19, h20, h21, h22, h23, h24, h25, h26, h27⟩ := h
  exact ⟨fun j hj => (w_ro (by omega)).trans (h7 j hj), (w_ro (by omega)).trans h8, (w_ro (by omega)).trans h9, (w_ro (by omega)).trans h10, (w_ro (by omega)).trans h11, (w_ro (by omega)).trans h12, (w_ro (by omega)).trans h13, fun j hj => (w_ro (by omega)).trans (h14 j hj), (w_ro (by omega)).trans h15, (w_ro (by omega)).trans h16, (w_ro (by omega)).trans h17, (w_ro (by omega)).trans h18, (w_ro (by omega)).trans h19, (w_ro (by omega)).trans h20, (w_rds _ _ _).trans hv, (w_ro (by omega)).trans h22, (w_ro (by omega)).trans h23, fun j hj => (w_ro (by omega)).trans (h24 j hj), fun hm => by rw [w_ro (show 91 ≠ 111 by omega), w_ro (show 90 ≠ 111 by omega)]; exact h25 ((w_ro (show 86 ≠ 111 by omega)).symm.trans hm), h26, h27⟩
theorem rd_112 (h : rd N E P A T f) {x v : Int64} (hv : v = x) : rd N E P (A.1, A.2.1, A.2.2.1, A.2.2.2.1, A.2.2.2.2.1, A.2.2.2.2.2.1, A.2.2.2.2.2.2.1, A.2.2.2.2.2.2.2.1, A.2.2.2.2.2.2.2.2.1, x, A.2.2.2.2.2.2.2.2.2.2) T (vp_updL f 112 v) := by
  obtain ⟨h7, h8, h9, h10, h11, h12, h13, h14, h15, h16, h17, h18, h19, h20, h21, h22, h23, h24, h25, h26, h27⟩ := h
  exact ⟨fun j hj => (w_ro (by omega)).trans (h7 j hj), (w_ro (by omega)).trans h8, (w_ro (by omega)).trans h9, (w_ro (by omega)).trans h10, (w_ro (by omega)).trans h11, (w_ro (by omega)).trans h12, (w_ro (by omega)).trans h13, fun j hj => (w_ro (by omega)).trans (h14 j hj), (w_ro (by omega)).trans h15, (w_ro (by omega)).trans h16, (w_ro (by omega)).trans h17, (w_ro (by omega)).trans h18, (w_ro (by omega)).trans h19, (w_ro (by omega)).trans h20, (w_ro (by omega)).trans h21, (w_rds _ _ _).trans hv, (w_ro (by omega)).trans h23, fun j hj => (w_ro (by omega)).trans (h24 j hj), fun hm => by rw [w_ro (show 91 ≠ 112 by omega), w_ro (show 90 ≠ 112 by omega)]; exact h25 ((w_ro (show 86 ≠ 112 by omega)).symm.trans hm), h26, h27⟩
theorem rd_113 (h : rd N E P A T f) {x v : Int64} (hv : v = x) : rd N E P (A.1, A.2.1, A.2.2.1, A.2.2.2.1, A.2.2.2.2.1, A.2.2.2.2.2.1, A.2.2.2.2.2.2.1, A.2.2.2.2.2.2.2.1, A.2.2.2.2.2.2.2.2.1, A.2.2.2.2.2.2.2.2.2.1, x) T (vp_updL f 113 v) := by
  obtain ⟨h7, h8, h9, h10, h11, h12, h13, h14, h15, h16, h17, h18, h19, h20, h21, h22, h23, h24, h25, h26, h27⟩ := h
  exact ⟨fun j hj => (w_ro (by omega)).trans (h7 j hj), (w_ro (by omega)).trans h8, (w_ro (by omega)).trans h9, (w_ro (by omega)).trans h10, (w_ro (by omega)).trans h11, (w_ro (by omega)).trans h12, (w_ro (by omega)).trans h13, fun j hj => (w_ro (by omega)).trans (h14 j hj), (w_ro (by omega)).trans h15, (w_ro (by omega)).trans h16, (w_ro (by omega)).trans h17, (w_ro (by omega)).trans h18, (w_ro (by omega)).trans h19, (w_ro (by omega)).trans h20, (w_ro (by omega)).trans h21, (w_ro (by omega)).trans h22, (w_rds _ _ _).trans hv, fun j hj => (w_ro (by omega)).trans (h24 j hj), fun hm => by rw [w_ro (show 91 ≠ 113 by omega), w_ro (show 90 ≠ 113 by omega)]; exact h25 ((w_ro (show 86 ≠ 113 by omega)).symm.trans hm), h26, h27⟩
theorem rd_114 (h : rd N E P A T f) {k : Nat} {x : Int32} {v : Int64} (hk : k < 60) (hv : v = x.toInt64) : rd N E (P.1, P.2.1, P.2.2.1, P.2.2.2.1, P.2.2.2.2.1, P.2.2.2.2.2.1 + (x - P.2.2.2.2.2.2 k), upd P.2.2.2.2.2.2 k x) A T (vp_updL f (114 + k) v) := by
  obtain ⟨h7, h8, h9, h10, h11, h12, h13, h14, h15, h16, h17, h18, h19, h20, h21, h22, h23, h24, h25, h26, h27⟩ := h
  obtain ⟨g1, g2, g3, g4, g5, g6⟩ := h26
  exact ⟨fun j hj => (w_ro (by omega)).trans (h7 j hj), (w_ro (by omega)).trans h8, (w_ro (by omega)).trans h9, (w_ro (by omega)).trans h10, (w_ro (by omega)).trans h11, (w_ro (by omega)).trans h12, (w_ro (by omega)).trans h13, fun j hj => (w_ro (by omega)).trans (h14 j hj), (w_ro (by omega)).trans h15, (w_ro (by omega)).trans h16, (w_ro (by omega)).trans h17, (w_ro (by omega)).trans h18, (w_ro (by omega)).trans h19, (w_ro (by omega)).trans h20, (w_ro (by omega)).trans h21, (w_ro (by omega)).trans h22, (w_ro (by omega)).trans h23, fun j hj => by
    by_cases e : j = k
    · subst e
      exact (w_rds _ _ _).trans (hv.trans (congrArg Int32.toInt64 (show x = upd P.2.2.2.2.2.2 j x j from (if_pos rfl).symm)))
    · rw [w_ro (show 114 + j ≠ 114 + k by omega), h24 j hj]
      exact congrArg Int32.toInt64 (show _ = upd P.2.2.2.2.2.2 k x j from (if_neg e).symm), fun hm => by rw [w_ro (show 91 ≠ (114 + k) by omega), w_ro (show 90 ≠ (114 + k) by omega)]; exact h25 ((w_ro (show 86 ≠ (114 + k) by omega)).symm.trans hm), ⟨g1, g2, g3, g4, g5, by rw [g6]; exact (wS_u P.2.2.2.2.2.2 x 60 hk).symm⟩, h27⟩
theorem rd_82 (h : rd N E P A T f) {k : Nat} {v : Int64} (hk : k < 4) : rd N (vp_updL E k v) P A T (vp_updL f (82 + k) v) := by
  obtain ⟨h7, h8, h9, h10, h11, h12, h13, h14, h15, h16, h17, h18, h19, h20, h21, h22, h23, h24, h25, h26, h27⟩ := h
  exact ⟨fun j hj => by
    by_cases e : j = k
    · subst e
      exact (w_rds _ _ _).trans (w_rds _ _ _).symm
    · rw [w_ro (show 82 + j ≠ 82 + k by omega), w_ro e]
      exact h7 j hj, (w_ro (by omega)).trans h8, (w_ro (by omega)).trans h9, (w_ro (by omega)).trans h10, (w_ro (by omega)).trans h11, (w_ro (by omega)).trans h12, (w_ro (by omega)).trans h13, fun j hj => (w_ro (by omega)).trans (h14 j hj), (w_ro (by omega)).trans h15, (w_ro (by omega)).trans h16, (w_ro (by omega)).trans h17, (w_ro (by omega)).trans h18, (w_ro (by omega)).trans h19, (w_ro (by omega)).trans h20, (w_ro (by omega)).trans h21, (w_ro (by omega)).trans h22, (w_ro (by omega)).trans h23, fun j hj => (w_ro (by omega)).trans (h24 j hj), fun hm => by rw [w_ro (show 91 ≠ (82 + k) by omega), w_ro (show 90 ≠ (82 + k) by omega)]; exact h25 ((w_ro (show 86 ≠ (82 + k) by omega)).symm.trans hm), h26, h27⟩
theorem rd_90 (h : rd N E P A T f) {w : Int64} (hw : w = f 91) (hN : 0 ≤ N) : rd N E (2, P.2.1, P.2.2.1, 0, P.2.2.2.2) A T (vp_updL (vp_updL f 86 2) 90 w) := by
  obtain ⟨h7, h8, h9, h10, h11, h12, h13, h14, h15, h16, h17, h18, h19, h20, h21, h22, h23, h24, h25, h26, h27⟩ := h
  obtain ⟨g1, g2, g3, g4, g5, g6⟩ := h26
  exact ⟨fun j hj => (w_ro (by omega)).trans ((w_ro (by omega)).trans (h7 j hj)), (w_ro (by omega)).trans ((w_rds _ _ _).trans rfl), (w_ro (by omega)).trans ((w_ro (by omega)).trans h9), (w_ro (by omega)).trans ((w_ro (by omega)).trans h10), (w_ro (by omega)).trans ((w_ro (by omega)).trans h11), (w_ro (by omega)).trans ((w_ro (by omega)).trans h12), (w_ro (by omega)).trans ((w_ro (by omega)).trans h13), fun j hj => (w_ro (by omega)).trans ((w_ro (by omega)).trans (h14 j hj)), (w_ro (by omega)).trans ((w_ro (by omega)).trans h15), (w_ro (by omega)).trans ((w_ro (by omega)).trans h16), (w_ro (by omega)).trans ((w_ro (by omega)).trans h17), (w_ro (by omega)).trans ((w_ro (by omega)).trans h18), (w_ro (by omega)).trans ((w_ro (by omega)).trans h19), (w_ro (by omega)).trans ((w_ro (by omega)).trans h20), (w_ro (by omega)).trans ((w_ro (by omega)).trans h21), (w_ro (by omega)).trans ((w_ro (by omega)).trans h22), (w_ro (by omega)).trans ((w_ro (by omega)).trans h23), fun j hj => (w_ro (by omega)).trans ((w_ro (by omega)).trans (h24 j hj)), fun _ => by rw [w_rds, w_ro (show 91 ≠ 90 by omega), w_ro (show 91 ≠ 86 by omega), hw, Int64.sub_self]; rfl, ⟨⟨show (0 : Int) ≤ (2 : Int32).toInt by decide, show (2 : Int32).toInt ≤ 2 by decide⟩, g2, g3, ⟨show (0 : Int) ≤ (0 : Int32).toInt by decide, hN⟩, g5, g6⟩, h27⟩
end T
