/-! numbers out of the script -/
theorem lo_0 (p : Int32) : 0 ≤ (p &&& (2147483647 : Int32)).toInt := by
  have hm : (p.toBitVec &&& (2147483647 : Int32).toBitVec).msb = false := by
    rw [BitVec.msb_and, show (2147483647 : Int32).toBitVec.msb = false from by decide, Bool.and_false]
  have h : (p &&& (2147483647 : Int32)).toInt = (p.toBitVec &&& (2147483647 : Int32).toBitVec).toInt := rfl
  rw [h, BitVec.toInt_eq_toNat_of_msb hm]
  omega
theorem lo_in (p : Int32) {n : Nat} (h0 : 0 < n) (h1 : n < 2 ^ 31) : ∃ a : Nat, F12_low p (nI n) = nI a ∧ a < n := by
  obtain ⟨a, e, ha, -⟩ := nat_n (lo_0 p)
  refine ⟨a % n, ?_, Nat.mod_lt _ h0⟩
  unfold F12_low
  rw [e]
  exact pk_rem ha h0 h1
/-! a plant with one of its parts anew -/
def uS (u : PlS) (S : SS) : PlS := (S, pW u, pK u, pB u, pP u, pA u, pC u, pT u)
def uW (u : PlS) (W : SW) : PlS := (pS u, W, pK u, pB u, pP u, pA u, pC u, pT u)
def uK (u : PlS) (K : SK) : PlS := (pS u, pW u, K, pB u, pP u, pA u, pC u, pT u)
def uB (u : PlS) (B : SB) : PlS := (pS u, pW u, pK u, B, pP u, pA u, pC u, pT u)
theorem Iv_uS {u : PlS} {S : SS} (h : Iv u) (hS : iS S) : Iv (uS u S) := ⟨hS, h.2⟩
theorem Iv_uW {u : PlS} {W : SW} (h : Iv u) (hW : iW W) : Iv (uW u W) := ⟨h.1, hW, h.2.2⟩
theorem Iv_uK {u : PlS} {K : SK} (h : Iv u) (hK : iK K) : Iv (uK u K) := ⟨h.1, h.2.1, hK, h.2.2.2⟩
theorem Iv_uB {u : PlS} {B : SB} (h : Iv u) (hB : iB B (pT u).toInt) : Iv (uB u B) := ⟨h.1, h.2.1, h.2.2.1, h.2.2.2.1, hB, h.2.2.2.2.2⟩
theorem Iv_wC {u : PlS} {c : SC} (h : Iv u) : Iv (wC u c) := h
/-! what is remembered -/
def Hv (u : PlS) (o k : Nat) (h : Nat → PlS) : Prop := Iv u ∧ o < 4 ∧ k ≤ 4 ∧ ∀ j, Iv (h j)
def rcs (u : PlS) (k o' k' : Nat) (h' : Nat → PlS) : Prop := o' < 4 ∧ 1 ≤ k' ∧ k' ≤ 4 ∧ (k < 4 ∧ k' = k + 1 ∨ k = 4 ∧ k' = 4) ∧ (∃ c, h' ((o' + (k' - 1)) % 4) = wC u c) ∧ ∀ j, Iv (h' j)
theorem up_in {α : Type} (h : Nat → α) (n : Nat) (v : α) : w_up h n v n = v := if_pos rfl
theorem up_Iv {h : Nat → PlS} {n : Nat} {v : PlS} (hh : ∀ j, Iv (h j)) (hv : Iv v) : ∀ j, Iv (w_up h n v j) := fun j => by
  unfold w_up
  split
  · exact hv
  · exact hh j
theorem rec_ok {u : PlS} {o k : Nat} {h : Nat → PlS} (H : Hv u o k h) : (F4_record o k h u).1 = nI (F4_record o k h u).2.1.2 ∧ rcs u k (F4_record o k h u).2.1.1 (F4_record o k h u).2.1.2 (F4_record o k h u).2.2 := by
  obtain ⟨hI, ho, hk, hh⟩ := H
  unfold F4_record
  by_cases h4 : k = 4
  · rw [if_pos h4]
    subst h4
    exact ⟨rfl, Nat.mod_lt _ (by omega), by show 1 ≤ 4 - 1 + 1; omega, by show 4 - 1 + 1 ≤ 4; omega, Or.inr ⟨rfl, rfl⟩, ⟨pC (h (((o + 1) % 4 + (4 - 1)) % 4)), up_in h (((o + 1) % 4 + (4 - 1)) % 4) _⟩, up_Iv hh (Iv_wC hI)⟩
  · rw [if_neg h4]
    exact ⟨rfl, ho, by show 1 ≤ k + 1; omega, by show k + 1 ≤ 4; omega, Or.inl ⟨by omega, rfl⟩, ⟨pC (h ((o + k) % 4)), up_in h ((o + k) % 4) _⟩, up_Iv hh (Iv_wC hI)⟩
theorem un_0 (u : PlS) (o : Nat) (h : Nat → PlS) : F10_undo u o 0 h = ((-2 : Int32), (u, ((o, 0), h))) := rfl
theorem un_k {u : PlS} {o k : Nat} {h : Nat → PlS} (hk : k ≠ 0) : F10_undo u o k h = (nI (k - 1), (wC (h ((o + (k - 1)) % 4)) (pC u), ((o, k - 1), h))) := by
  unfold F10_undo K10_undo_1 F4_restore
  rw [if_neg hk]
  rfl
theorem un_H {u : PlS} {o k : Nat} {h : Nat → PlS} (H : Hv u o k h) : Hv (F10_undo u o k h).2.1 (F10_undo u o k h).2.2.1.1 (F10_undo u o k h).2.2.1.2 (F10_undo u o k h).2.2.2 := by
  by_cases hk : k = 0
  · subst hk
    exact H
  · rw [un_k hk]
    exact ⟨Iv_wC (H.2.2.2 _), H.2.1, by show k - 1 ≤ 4; have := H.2.2.1; omega, H.2.2.2⟩
abbrev RZ := Int32 × PlS × ((Nat × Nat) × (Nat → PlS))
/-- a change came through: the state behind it, and what is remembered -/
def cz (u u' : PlS) (k : Nat) (z : RZ) : Prop := z.2.1 = u' ∧ rcs u k z.2.2.1.1 z.2.2.1.2 z.2.2.2
theorem cz_H {u u' : PlS} {k : Nat} {z : RZ} (h : cz u u' k z) (hI : Iv u') : Hv z.2.1 z.2.2.1.1 z.2.2.1.2 z.2.2.2 := ⟨by rw [h.1]; exact hI, h.2.1, h.2.2.2.1, h.2.2.2.2.2.2⟩
theorem cz_i {u u' : PlS} {k : Nat} {z : RZ} (h : cz u u' k z) (e : z.1 = nI z.2.2.1.2) : 1 ≤ z.1.toInt ∧ z.1.toInt ≤ 4 ∧ z.1.toInt = (z.2.2.1.2 : Int) := by
  obtain ⟨-, -, h1, h2, -⟩ := h
  rw [e, nI_toInt (by omega)]
  omega
theorem cz_0 {u u' : PlS} {k : Nat} {z : RZ} (h : cz u u' k z) (e : z.1 = nI z.2.2.1.2) : ¬ z.1 ≤ (0 : Int32) := by
  rw [w_leI, show (0 : Int32).toInt = 0 from by decide]
  have := cz_i h e
  omega
theorem cz_1 {u u' : PlS} {k : Nat} {z : RZ} (h : cz u u' k z) (e : z.1 = nI z.2.2.1.2) : ¬ z.1 < (1 : Int32) := by
  rw [w_ltI, show (1 : Int32).toInt = 1 from by decide]
  have := cz_i h e
  omega
/-- behind a change, undoing it brings back the state but for the conditions -/
theorem cz_un {u u' : PlS} {k : Nat} {z : RZ} (h : cz u u' k z) : ∃ c, (F10_undo z.2.1 z.2.2.1.1 z.2.2.1.2 z.2.2.2) = (nI (z.2.2.1.2 - 1), (wC u c, ((z.2.2.1.1, z.2.2.1.2 - 1), z.2.2.2))) := by
  obtain ⟨-, -, h1, -, -, ⟨c, e⟩, -⟩ := h
  refine ⟨pC z.2.1, ?_⟩
  rw [un_k (by omega), e]
  rfl
/-! the changes -/
theorem ta_in {n : Nat} (hn : n < 3) : F8_isTariff (nI n) = true := by
  unfold F8_isTariff
  rw [if_neg (w_i0 (by rw [nI_toInt (by omega)]; omega)), if_neg (by rw [w_leI, nI_toInt (by omega), show (3 : Int32).toInt = 3 from by decide]; omega)]
theorem pi_in {n : Nat} (hn : n ≤ 1000) : F8_isPrice (nI n) = true := w_two.mpr ⟨by rw [nI_toInt (by omega), show (0 : Int32).toInt = 0 from by decide]; omega, by rw [nI_toInt (by omega), show (1000 : Int32).toInt = 1000 from by decide]; omega⟩
theorem upd_b {x : SS} {a : Nat} {v : Int32} {n : Nat} {l m : Int} (h : ∀ j, j < n → l ≤ (x j).toInt ∧ (x j).toInt ≤ m) (hv : l ≤ v.toInt ∧ v.toInt ≤ m) : ∀ j, j < n → l ≤ (upd x a v j).toInt ∧ (upd x a v j).toInt ≤ m := fun j hj => by
  unfold upd
  split
  · exact hv
  · exact h j hj
theorem upd_at (x : SS) (a : Nat) (v : Int32) : upd x a v a = v := if_pos rfl
theorem so_ok {u : PlS} {o k : Nat} {h : Nat → PlS} (H : Hv u o k h) {a : Nat} {v : Int32} (ha : a < 24) (hv : -300 ≤ v.toInt ∧ v.toInt ≤ 400) : (F10_setOutdoor u o k h (nI a) v).1 = nI (F10_setOutdoor u o k h (nI a) v).2.2.1.2 ∧ cz u (uW u (upd (pW u).1 a v, (pW u).2.1, (pW u).2.2)) k (F10_setOutdoor u o k h (nI a) v) ∧ Iv (uW u (upd (pW u).1 a v, (pW u).2.1, (pW u).2.2)) := by
  unfold F10_setOutdoor
  rw [if_pos (it_in ha), if_pos (oo_in hv.1 hv.2)]
  unfold K10_setOutdoor_1 K10_setOutdoor_2
  rw [rp_in ha (by decide)]
  obtain ⟨e1, e2⟩ := rec_ok H
  exact ⟨e1, ⟨rfl, e2⟩, Iv_uW H.1 ⟨upd_b H.1.2.1.1 hv, H.1.2.1.2⟩⟩
theorem st_ok2 {u : PlS} {o k : Nat} {h : Nat → PlS} (H : Hv u o k h) {a b : Nat} (ha : a < 24) (hb : b < 3) : (F10_setTariff u o k h (nI a) (nI b)).1 = nI (F10_setTariff u o k h (nI a) (nI b)).2.2.1.2 ∧ cz u (uW u ((pW u).1, upd (pW u).2.1 a (nI b), (pW u).2.2)) k (F10_setTariff u o k h (nI a) (nI b)) ∧ Iv (uW u ((pW u).1, upd (pW u).2.1 a (nI b), (pW u).2.2)) := by
  unfold F10_setTariff
  rw [if_pos (it_in ha), if_pos (ta_in hb)]
  unfold K10_setTariff_1 K10_setTariff_2
  rw [rp_in ha (by decide)]
  obtain ⟨e1, e2⟩ := rec_ok H
  exact ⟨e1, ⟨rfl, e2⟩, Iv_uW H.1 ⟨H.1.2.1.1, upd_b H.1.2.1.2.1 (by rw [nI_toInt (by omega)]; omega), H.1.2.1.2.2⟩⟩
theorem sp_ok {u : PlS} {o k : Nat} {h : Nat → PlS} (H : Hv u o k h) {a b : Nat} (ha : a < 3) (hb : b ≤ 1000) : (F10_setPrice u o k h (nI a) (nI b)).1 = nI (F10_setPrice u o k h (nI a) (nI b)).2.2.1.2 ∧ cz u (uW u ((pW u).1, (pW u).2.1, upd (pW u).2.2 a (nI b))) k (F10_setPrice u o k h (nI a) (nI b)) ∧ Iv (uW u ((pW u).1, (pW u).2.1, upd (pW u).2.2 a (nI b))) := by
  unfold F10_setPrice
  rw [if_pos (ta_in ha), if_pos (pi_in hb)]
  unfold K10_setPrice_1 K10_setPrice_2
  rw [rp_in ha (by decide)]
  obtain ⟨e1, e2⟩ := rec_ok H
  exact ⟨e1, ⟨rfl, e2⟩, Iv_uW H.1 ⟨H.1.2.1.1, H.1.2.1.2.1, upd_b H.1.2.1.2.2 (by rw [nI_toInt (by omega)]; omega)⟩⟩
theorem al_iff {a : Nat} (ha : a < 17) (v : Int32) : F7_allows (nI a) v = true ↔ (sLE a).toInt ≤ v.toInt ∧ v.toInt ≤ (sMO a).toInt := by
  unfold F7_allows
  rw [if_neg (w_i0 (by rw [nI_toInt (by omega)]; omega)), if_neg (by rw [w_leI, nI_toInt (by omega), show (17 : Int32).toInt = 17 from by decide]; omega), if_neg (by rw [w_leI, nI_toInt (by omega), show (17 : Int32).toInt = 17 from by decide]; omega), nI_clamp (by omega)]
  exact w_two
theorem ch_in {S : SS} {a : Nat} (ha : a < 17) (v : Int32) : F7_change S (nI a) v = upd S a v := rp_in (n := 17) ha (by decide)
theorem iS_upd {S : SS} {a : Nat} {v : Int32} (h : iS S) (hv : (sLE a).toInt ≤ v.toInt ∧ v.toInt ≤ (sMO a).toInt) : iS (upd S a v) := fun j hj => by
  unfold upd
  split
  · rename_i e
    rw [e]
    exact hv
  · exact h j hj
theorem se_ok {u : PlS} {o k : Nat} {h : Nat → PlS} (H : Hv u o k h) {a : Nat} {v : Int32} (ha : a < 17) (hv : (sLE a).toInt ≤ v.toInt ∧ v.toInt ≤ (sMO a).toInt) : (F10_set u o k h (nI a) v).1 = nI (F10_set u o k h (nI a) v).2.2.1.2 ∧ cz u (uS u (upd (pS u) a v)) k (F10_set u o k h (nI a) v) ∧ Iv (uS u (upd (pS u) a v)) := by
  unfold F10_set
  rw [if_pos ((al_iff ha v).mpr hv)]
  unfold K10_set_1 K10_set_2
  rw [ch_in ha]
  obtain ⟨e1, e2⟩ := rec_ok H
  exact ⟨e1, ⟨rfl, e2⟩, Iv_uS H.1 (iS_upd H.1.1 hv)⟩
theorem se_no {u : PlS} {o k : Nat} {h : Nat → PlS} {a : Nat} {v : Int32} (ha : a < 17) (hv : ¬ ((sLE a).toInt ≤ v.toInt ∧ v.toInt ≤ (sMO a).toInt)) : F10_set u o k h (nI a) v = ((-1 : Int32), (u, ((o, k), h))) := by
  unfold F10_set
  exact if_neg (fun q => hv ((al_iff ha v).mp q))
theorem fi_e {c t : Nat} (hc : c ≤ 5000) (ht : t ≤ 700) : ((nI c).toInt64 * (nI t).toInt64).toInt = (c : Int) * (t : Int) ∧ 0 ≤ (c : Int) * (t : Int) ∧ (c : Int) * (t : Int) ≤ 3500000 := by
  have h1 : (0 : Int) ≤ (c : Int) * (t : Int) := Int.mul_nonneg (by omega) (by omega)
  have h2 : (c : Int) * (t : Int) ≤ 5000 * (t : Int) := Int.mul_le_mul_of_nonneg_right (by omega) (by omega)
  refine ⟨?_, h1, by omega⟩
  have e1 : (nI c).toInt64.toInt = (c : Int) := by rw [Int32.toInt_toInt64, nI_toInt (by omega)]
  have e2 : (nI t).toInt64.toInt = (t : Int) := by rw [Int32.toInt_toInt64, nI_toInt (by omega)]
  rw [ar_m64 (by rw [e1, e2]; omega) (by rw [e1, e2]; omega), e1, e2]
theorem fi_ok {u : PlS} {o k : Nat} {h : Nat → PlS} (H : Hv u o k h) {c t : Nat} (hc0 : 100 ≤ c) (hc : c ≤ 5000) (ht : t ≤ 700) : (F10_fill u o k h (nI c) (nI t)).1 = nI (F10_fill u o k h (nI c) (nI t)).2.2.1.2 ∧ cz u (uB u (fun _ => (nI c).toInt64 * (nI t).toInt64, nI c)) k (F10_fill u o k h (nI c) (nI t)) ∧ Iv (uB u (fun _ => (nI c).toInt64 * (nI t).toInt64, nI c)) := by
  have g1 : F1_isCapacity (nI c) = true := w_two.mpr ⟨by rw [nI_toInt (by omega), show (100 : Int32).toInt = 100 from by decide]; omega, by rw [nI_toInt (by omega), show (5000 : Int32).toInt = 5000 from by decide]; omega⟩
  have g2 : F1_isFilling (nI t) = true := w_two.mpr ⟨by rw [nI_toInt (by omega), show (0 : Int32).toInt = 0 from by decide]; omega, by rw [nI_toInt (by omega), show (700 : Int32).toInt = 700 from by decide]; omega⟩
  unfold F10_fill
  rw [if_pos g1, if_pos g2]
  unfold K10_fill_1 K10_fill_2
  obtain ⟨e1, e2⟩ := rec_ok H
  obtain ⟨m1, m2, m3⟩ := fi_e hc ht
  have hT := H.1.2.2.2.1.1
  refine ⟨e1, ⟨rfl, e2⟩, Iv_uB H.1 ⟨by show 100 ≤ (nI c).toInt; rw [nI_toInt (by omega)]; omega, by show (nI c).toInt ≤ 5000; rw [nI_toInt (by omega)]; omega, fun j _ => ?_⟩⟩
  show -(4000000 + 30000 * (pT u).toInt) ≤ ((nI c).toInt64 * (nI t).toInt64).toInt ∧ ((nI c).toInt64 * (nI t).toInt64).toInt ≤ 4000000 + 30000 * (pT u).toInt
  rw [m1]
  omega
theorem sp_3 (u : PlS) (o k : Nat) (h : Nat → PlS) : F10_setPrice u o k h (3 : Int32) (0 : Int32) = ((-1 : Int32), (u, ((o, k), h))) := by
  unfold F10_setPrice
  exact if_neg (by decide)
/-! a run of the plant -/
theorem rn_ok {u : PlS} {o k : Nat} {h : Nat → PlS} (H : Hv u o k h) {n : Nat} (h0 : 1 ≤ n) (h1 : n ≤ 1440) (ht : (pT u).toInt + (n : Int) ≤ 100000) : (F10_run u o k h (nI n)).1 = F10_starts (stN n u) - F10_starts u ∧ cz u (stN n u) k (F10_run u o k h (nI n)) ∧ Iv (stN n u) := by
  have hT := H.1.2.2.2.1.1
  have ea : (pT u + nI n).toInt = (pT u).toInt + (n : Int) := by
    rw [ar_a32 (by rw [nI_toInt (by omega)]; omega) (by rw [nI_toInt (by omega)]; omega), nI_toInt (by omega)]
  unfold F10_run
  rw [if_neg (by rw [w_ltI, nI_toInt (by omega), show (1 : Int32).toInt = 1 from by decide]; omega), if_pos (by rw [w_leI, nI_toInt (by omega), show (1440 : Int32).toInt = 1440 from by decide]; omega), if_pos (by rw [w_leI, ea, show (100000 : Int32).toInt = 100000 from by decide]; omega)]
  unfold K10_run_1 K10_run_2
  rw [nI_clamp (by omega), ad_eq hT (by omega)]
  obtain ⟨e1, e2⟩ := rec_ok H
  exact ⟨rfl, ⟨rfl, e2⟩, (stN_ok H.1 n ht).1⟩
theorem rn_no {u : PlS} {o k : Nat} {h : Nat → PlS} (H : Hv u o k h) {n : Nat} (h0 : 1 ≤ n) (h1 : n ≤ 1440) (ht : ¬ (pT u).toInt + (n : Int) ≤ 100000) : F10_run u o k h (nI n) = ((-3 : Int32), (u, ((o, k), h))) := by
  have hT := H.1.2.2.2.1
  have ea : (pT u + nI n).toInt = (pT u).toInt + (n : Int) := by
    rw [ar_a32 (by rw [nI_toInt (by omega)]; omega) (by rw [nI_toInt (by omega)]; omega), nI_toInt (by omega)]
  unfold F10_run
  rw [if_neg (by rw [w_ltI, nI_toInt (by omega), show (1 : Int32).toInt = 1 from by decide]; omega), if_pos (by rw [w_leI, nI_toInt (by omega), show (1440 : Int32).toInt = 1440 from by decide]; omega), if_neg (by rw [w_leI, ea, show (100000 : Int32).toInt = 100000 from by decide]; omega)]
theorem st_le {u : PlS} {n : Nat} (hI : Iv u) (ht : (pT u).toInt + (n : Int) ≤ 100000) : (0 : Int32) ≤ F10_starts (stN n u) - F10_starts u := by
  obtain ⟨h1, -, h3, -⟩ := stN_ok hI n ht
  have g0 : 0 ≤ (F10_starts u).toInt ∧ (F10_starts u).toInt ≤ (pT u).toInt := hI.2.2.2.2.2.2.1.2.2.2.2
  have g1 : 0 ≤ (F10_starts (stN n u)).toInt ∧ (F10_starts (stN n u)).toInt ≤ (pT (stN n u)).toInt := h1.2.2.2.2.2.2.1.2.2.2.2
  have g2 := h1.2.2.2.1
  have g3 := hI.2.2.2.1
  rw [w_leI, ar_s32 (by omega) (by omega), show (0 : Int32).toInt = 0 from by decide]
  omega
