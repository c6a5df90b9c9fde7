/-! a plant with other conditions; what a minute is made of -/
def wC (u : PlS) (c : SC) : PlS := (pS u, pW u, pK u, pB u, pP u, pA u, c, pT u)
theorem cp_wC (u v : PlS) : F5_copyFrom u v = wC v (pC u) := rfl
def cnd (u : PlS) (h : Int32) : SC := pC (F5_readConditions u h)
theorem rc_wC (u : PlS) (h : Int32) : F5_readConditions u h = wC u (cnd u h) := rfl
def u00 (S : SS) (W : SW) (K : SK) : PlS := (S, W, K, (fun _ => 0, 0), (0, 0, 0, 0, 0, 0, fun _ => 0), (fun _ => 0, 0, 0, 0, 0, 0, 0, 0, 0, 0, 0), (0, 0, 0, 0, 0), 0)
theorem cnd_f (u : PlS) (h : Int32) : cnd u h = cnd (u00 (pS u) (pW u) (pK u)) h := rfl
def hr (t : Int32) : Int32 := t / (60 : Int32) - t / (60 : Int32) / (24 : Int32) * (24 : Int32)
def m1 (u : PlS) : SP := F6_endDefrosting (pP u) (F7_valueOf (pS u) (11 : Int32))
def mR (u : PlS) : Int32 := F6_decide (m1 u) (pS u) (pB u) (pC u)
def m4 (u : PlS) : SP := F6_noteStart (F6_obey (m1 u) (mR u)) (pT u) (bI (decide (mR u = (11 : Int32))))
def m5 (u : PlS) : SA := F0_countMinute (pA u) (mR u)
def mV (u : PlS) : PlS := (pS u, pW u, pK u, pB u, m4 u, m5 u, pC u, pT u)
def mX (u : PlS) : PlS := if (m4 u).1 = (1 : Int32) then F5_produce (mV u) else if (m4 u).1 = (2 : Int32) then F5_defrost (mV u) else mV u
def mD (u : PlS) : Int64 × SB := F1_draw (pB (mX u)) ((pC (mX u)).2.2.2.1).toInt64
def mL (u : PlS) : Int64 × SB := F1_lose (mD u).2 (F7_valueOf (pS (mX u)) (13 : Int32))
def mE (u : PlS) : SB := F1_conduct (F1_rise (mL u).2) (F7_valueOf (pS (mX u)) (14 : Int32))
def mA (u : PlS) : SA := ((pA (mX u)).1, (pA (mX u)).2.1, (pA (mX u)).2.2.1, (pA (mX u)).2.2.2.1, (pA (mX u)).2.2.2.2.1, (pA (mX u)).2.2.2.2.2.1, ((pA (mX u)).2.2.2.2.2.2.1 + (mD u).1), ((pA (mX u)).2.2.2.2.2.2.2.1 + (((pC (mX u)).2.2.2.1).toInt64 - (mD u).1)), ((pA (mX u)).2.2.2.2.2.2.2.2.1 + (mL u).1), (pA (mX u)).2.2.2.2.2.2.2.2.2.1, (pA (mX u)).2.2.2.2.2.2.2.2.2.2)
def mO (u : PlS) : SP := F6_obey (m1 u) (mR u)
theorem sm_e1 (u : PlS) : F5_simulateMinute u = K5_simulateMinute_1 u (m1 u) := by unfold F5_simulateMinute m1; rfl
theorem sm_e2 (u : PlS) : K5_simulateMinute_1 u (m1 u) = K5_simulateMinute_2 u (m1 u) (mO u) := by unfold K5_simulateMinute_1 mO mR; rfl
theorem sm_e3 (u : PlS) : K5_simulateMinute_2 u (m1 u) (mO u) = K5_simulateMinute_3 u (m1 u) (mO u) (m4 u) := by unfold K5_simulateMinute_2 m4 mO mR; rfl
theorem sm_e4 (u : PlS) : K5_simulateMinute_3 u (m1 u) (mO u) (m4 u) = K5_simulateMinute_4 u (m1 u) (mO u) (m4 u) (m5 u) := by unfold K5_simulateMinute_3 m5 mR; rfl
theorem sm_e5 (u : PlS) : B5_simulateMinute_74 u (m1 u) (mO u) (m4 u) (m5 u) = mX u := by unfold B5_simulateMinute_74 K5_simulateMinute_5 K5_simulateMinute_6 mX mV; rfl
theorem sm_e6 (u : PlS) (z1 z2 z4 : SP) (z5 : SA) : K5_simulateMinute_4 u z1 z2 z4 z5 = K5_simulateMinute_7 u z1 z2 z4 z5 (B5_simulateMinute_74 u z1 z2 z4 z5) := by unfold K5_simulateMinute_4; rfl
theorem sm_e7 (u : PlS) (z1 z2 z4 : SP) (z5 : SA) : K5_simulateMinute_7 u z1 z2 z4 z5 (mX u) = K5_simulateMinute_8 u z1 z2 z4 z5 (mX u) (mD u) := by unfold K5_simulateMinute_7 mD; rfl
theorem sm_e8 (u : PlS) (z1 z2 z4 : SP) (z5 : SA) : K5_simulateMinute_8 u z1 z2 z4 z5 (mX u) (mD u) = K5_simulateMinute_9 u z1 z2 z4 z5 (mX u) (mD u) (mL u) := by unfold K5_simulateMinute_8 mL; rfl
theorem sm_e9 (u : PlS) (z1 z2 z4 : SP) (z5 : SA) : K5_simulateMinute_9 u z1 z2 z4 z5 (mX u) (mD u) (mL u) = K5_simulateMinute_11 u z1 z2 z4 z5 (mX u) (mD u) (mL u) (F1_rise (mL u).2) (mE u) := by unfold K5_simulateMinute_9 K5_simulateMinute_10 mE; rfl
theorem sm_e10 (u : PlS) (z1 z2 z4 : SP) (z5 : SA) (z10 : PlS) (z11 z12 : Int64 × SB) (z13 z14 : SB) : K5_simulateMinute_11 u z1 z2 z4 z5 z10 z11 z12 z13 z14 = (pS z10, pW z10, pK z10, z14, F6_countMinute (pP z10), ((pA z10).1, (pA z10).2.1, (pA z10).2.2.1, (pA z10).2.2.2.1, (pA z10).2.2.2.2.1, (pA z10).2.2.2.2.2.1, ((pA z10).2.2.2.2.2.2.1 + z11.1), ((pA z10).2.2.2.2.2.2.2.1 + (((pC z10).2.2.2.1).toInt64 - z11.1)), ((pA z10).2.2.2.2.2.2.2.2.1 + z12.1), (pA z10).2.2.2.2.2.2.2.2.2.1, (pA z10).2.2.2.2.2.2.2.2.2.2), pC z10, pT z10 + (1 : Int32)) := by unfold K5_simulateMinute_11 K5_simulateMinute_12; rfl
theorem sm_eq (u : PlS) : F5_simulateMinute u = (pS (mX u), pW (mX u), pK (mX u), mE u, F6_countMinute (pP (mX u)), mA u, pC (mX u), pT (mX u) + (1 : Int32)) := by
  rw [sm_e1, sm_e2, sm_e3, sm_e4, sm_e6, sm_e5, sm_e7, sm_e8, sm_e9, sm_e10]
  unfold mA
  rfl
/-! production, defrosting -/
def pHt (v : PlS) : Int64 := if (F7_valueOf (pS v) (7 : Int32)).toInt64 + F10_div (((F7_valueOf (pS v) (8 : Int32)) * (pC v).1).toInt64) (10 : Int64) < (500 : Int64) then (500 : Int64) else (F7_valueOf (pS v) (7 : Int32)).toInt64 + F10_div (((F7_valueOf (pS v) (8 : Int32)) * (pC v).1).toInt64) (10 : Int64)
def pPx (v : PlS) : Int64 := ((350 : Int64) + ((5 : Int64) * (F10_div (((pC v).1).toInt64) (10 : Int64)))) - ((4 : Int64) * (F10_div ((F1_temperatureOf (pB v) (3 : Int32)) - (300 : Int64)) (10 : Int64)))
def pPc (v : PlS) : Int64 := if (if pPx v < (700 : Int64) then pPx v else (700 : Int64)) < (100 : Int64) then (100 : Int64) else (if pPx v < (700 : Int64) then pPx v else (700 : Int64))
def pEl (v : PlS) : Int64 := F10_div (((pHt v) * (100 : Int64) + pPc v) - (1 : Int64)) (pPc v)
def prA (v : PlS) : SA := ((pA v).1, (pA v).2.1, (pA v).2.2.1, (pA v).2.2.2.1, ((pA v).2.2.2.2.1 + pHt v), (pA v).2.2.2.2.2.1, (pA v).2.2.2.2.2.2.1, (pA v).2.2.2.2.2.2.2.1, (pA v).2.2.2.2.2.2.2.2.1, ((pA v).2.2.2.2.2.2.2.2.2.1 + pEl v), ((pA v).2.2.2.2.2.2.2.2.2.2 + (pEl v * ((pC v).2.2.1).toInt64)))
def prP (v : PlS) : SP := ((pP v).1, (pP v).2.1, (pP v).2.2.1, (pP v).2.2.2.1, ((pP v).2.2.2.2.1 + (1 : Int32)), (pP v).2.2.2.2.2.1, (pP v).2.2.2.2.2.2)
theorem pr_1 (v : PlS) : F5_produce v = K5_produce_1 v (F5_use v (pEl v)) := by unfold F5_produce pEl pPc pPx pHt; rfl
theorem pr_2 (v z1 : PlS) : K5_produce_1 v z1 = K5_produce_2 v z1 (F1_add (pB z1) (3 : Int32) (pHt v)) := by unfold K5_produce_1 pHt; rfl
theorem pr_3 (v z1 : PlS) (z2 : SB) (c : F7_valueOf (pS z1) (9 : Int32) ≤ (pC v).1) : K5_produce_2 v z1 z2 = (pS z1, pW z1, pK z1, z2, pP z1, ((pA z1).1, (pA z1).2.1, (pA z1).2.2.1, (pA z1).2.2.2.1, ((pA z1).2.2.2.2.1 + pHt v), (pA z1).2.2.2.2.2.1, (pA z1).2.2.2.2.2.2.1, (pA z1).2.2.2.2.2.2.2.1, (pA z1).2.2.2.2.2.2.2.2.1, (pA z1).2.2.2.2.2.2.2.2.2.1, (pA z1).2.2.2.2.2.2.2.2.2.2), pC z1, pT z1) := by unfold K5_produce_2 pHt; exact if_pos c
theorem pr_4 (v z1 : PlS) (z2 : SB) (c : ¬ F7_valueOf (pS z1) (9 : Int32) ≤ (pC v).1) : K5_produce_2 v z1 z2 = (pS z1, pW z1, pK z1, z2, ((pP z1).1, (pP z1).2.1, (pP z1).2.2.1, (pP z1).2.2.2.1, ((pP z1).2.2.2.2.1 + (1 : Int32)), (pP z1).2.2.2.2.2.1, (pP z1).2.2.2.2.2.2), ((pA z1).1, (pA z1).2.1, (pA z1).2.2.1, (pA z1).2.2.2.1, ((pA z1).2.2.2.2.1 + pHt v), (pA z1).2.2.2.2.2.1, (pA z1).2.2.2.2.2.2.1, (pA z1).2.2.2.2.2.2.2.1, (pA z1).2.2.2.2.2.2.2.2.1, (pA z1).2.2.2.2.2.2.2.2.2.1, (pA z1).2.2.2.2.2.2.2.2.2.2), pC z1, pT z1) := by unfold K5_produce_2 pHt; exact if_neg c
theorem us_eq (v : PlS) (e : Int64) : F5_use v e = (pS v, pW v, pK v, pB v, pP v, ((pA v).1, (pA v).2.1, (pA v).2.2.1, (pA v).2.2.2.1, (pA v).2.2.2.2.1, (pA v).2.2.2.2.2.1, (pA v).2.2.2.2.2.2.1, (pA v).2.2.2.2.2.2.2.1, (pA v).2.2.2.2.2.2.2.2.1, ((pA v).2.2.2.2.2.2.2.2.2.1 + e), ((pA v).2.2.2.2.2.2.2.2.2.2 + (e * ((pC v).2.2.1).toInt64))), pC v, pT v) := by unfold F5_use; rfl
theorem pr_a {v : PlS} (c : F7_valueOf (pS v) (9 : Int32) ≤ (pC v).1) : F5_produce v = (pS v, pW v, pK v, F1_add (pB v) (3 : Int32) (pHt v), pP v, prA v, pC v, pT v) := by
  rw [pr_1, pr_2, pr_3 v (F5_use v (pEl v)) _ (by rw [us_eq]; exact c), us_eq]
  unfold prA
  rfl
theorem pr_b {v : PlS} (c : ¬ F7_valueOf (pS v) (9 : Int32) ≤ (pC v).1) : F5_produce v = (pS v, pW v, pK v, F1_add (pB v) (3 : Int32) (pHt v), prP v, prA v, pC v, pT v) := by
  rw [pr_1, pr_2, pr_4 v (F5_use v (pEl v)) _ (by rw [us_eq]; exact c), us_eq]
  unfold prA prP
  rfl
def dfA (v : PlS) : SA := ((pA v).1, (pA v).2.1, (pA v).2.2.1, (pA v).2.2.2.1, (pA v).2.2.2.2.1, ((pA v).2.2.2.2.2.1 + (F7_valueOf (pS v) (12 : Int32)).toInt64), (pA v).2.2.2.2.2.2.1, (pA v).2.2.2.2.2.2.2.1, (pA v).2.2.2.2.2.2.2.2.1, ((pA v).2.2.2.2.2.2.2.2.2.1 + (200 : Int64)), ((pA v).2.2.2.2.2.2.2.2.2.2 + ((200 : Int64) * ((pC v).2.2.1).toInt64)))
theorem df_eq (v : PlS) : F5_defrost v = (pS v, pW v, pK v, F1_add (pB v) (3 : Int32) ((-(F7_valueOf (pS v) (12 : Int32))).toInt64), pP v, dfA v, pC v, pT v) := by unfold F5_defrost K5_defrost_1 K5_defrost_2 dfA F5_use; rfl
theorem add3 (B : SB) (x : Int64) : F1_add B (3 : Int32) x = (vp_updL B.1 3 (B.1 3 + x), B.2) := by
  unfold F1_add
  rw [if_neg (by decide), if_neg (by decide)]
  rfl
/-! energies -/
theorem lt64 {a b : Int64} : a < b ↔ a.toInt < b.toInt := Int64.lt_iff_toInt_lt
theorem le64 {a b : Int64} : a ≤ b ↔ a.toInt ≤ b.toInt := Int64.le_iff_toInt_le
def sE (E : Nat → Int64) : Int64 := ((((0 : Int64) + (E 0)) + (E 1)) + (E 2)) + (E 3)
theorem en_sE (B : SB) : F1_energyOfAll B = sE B.1 := rfl
def bdE (M : Int) (E : Nat → Int64) : Prop := ∀ j, j < 4 → -M ≤ (E j).toInt ∧ (E j).toInt ≤ M
theorem bd_upd {M : Int} {E : Nat → Int64} {i : Nat} {x : Int64} (h : bdE M E) (h1 : -M ≤ x.toInt) (h2 : x.toInt ≤ M) : bdE M (vp_updL E i x) := fun j hj => by
  unfold vp_updL
  split
  · exact ⟨h1, h2⟩
  · exact h j hj
theorem bd_mono {M N : Int} {E : Nat → Int64} (h : bdE M E) (hMN : M ≤ N) : bdE N E := fun j hj => ⟨by have := (h j hj).1; omega, by have := (h j hj).2; omega⟩
theorem sE_upd {E : Nat → Int64} {i : Nat} {x : Int64} (hi : i < 4) : sE (vp_updL E i x) = sE E - E i + x := by
  unfold sE vp_updL
  rcases (show i = 0 ∨ i = 1 ∨ i = 2 ∨ i = 3 by omega) with rfl | rfl | rfl | rfl
  · simp only [Nat.reduceEqDiff, if_true, if_false]; grind
  · simp only [Nat.reduceEqDiff, if_true, if_false]; grind
  · simp only [Nat.reduceEqDiff, if_true, if_false]; grind
  · simp only [Nat.reduceEqDiff, if_true, if_false]; grind
theorem tm_i {E : Nat → Int64} {c : Int32} {i : Nat} (hi : i < 4) (hc : 0 < c.toInt) : (F1_temperatureOf (E, c) (nI i)).toInt = (E i).toInt / c.toInt := by
  unfold F1_temperatureOf
  rw [if_neg (w_i0 (by rw [nI_toInt (by omega)]; omega)), if_neg (by rw [w_leI, nI_toInt (by omega), show (4 : Int32).toInt = 4 from by decide]; omega), nI_clamp (by omega), ar_div (by rw [Int32.toInt_toInt64]; exact hc), Int32.toInt_toInt64]
/-- what the quotient says, times what divides -/
theorem dv_mul {e c : Int} (hc : 0 < c) : c * (e / c) ≤ e ∧ e < c * (e / c) + c := by
  have h1 := Int.mul_ediv_add_emod e c
  have h2 := Int.emod_nonneg e (show c ≠ 0 by omega)
  have h3 := Int.emod_lt_of_pos e hc
  omega
theorem dv_bd {e c M : Int} (hc : 0 < c) (hM : 0 ≤ M) (h1 : -M ≤ e) (h2 : e ≤ M) : -M ≤ e / c ∧ e / c ≤ M := by
  have h := Int.natAbs_ediv_le_natAbs e c
  omega
/-! drawing -/
theorem dr_ok {B : SB} {d : Int64} {M : Int} (hM : 0 ≤ M) (hM2 : M ≤ 1000000000000) (hE : bdE M B.1) (hc1 : 100 ≤ B.2.toInt) (hc2 : B.2.toInt ≤ 5000) (hd : 0 ≤ d.toInt) : 0 ≤ (F1_draw B d).1.toInt ∧ (F1_draw B d).1.toInt ≤ d.toInt ∧ (F1_draw B d).2.2 = B.2 ∧ (F1_draw B d).2.1 = vp_updL B.1 0 (B.1 0 - (F1_draw B d).1) ∧ bdE M (F1_draw B d).2.1 := by
  have h0 := hE 0 (by omega)
  have ec : ((200 : Int64) * B.2.toInt64).toInt = 200 * B.2.toInt := by
    rw [ar_m64 (by rw [Int32.toInt_toInt64, show (200 : Int64).toInt = 200 from by decide]; omega) (by rw [Int32.toInt_toInt64, show (200 : Int64).toInt = 200 from by decide]; omega), Int32.toInt_toInt64, show (200 : Int64).toInt = 200 from by decide]
  have eu : (B.1 0 - (200 : Int64) * B.2.toInt64).toInt = (B.1 0).toInt - 200 * B.2.toInt := by
    rw [ar_s64 (by rw [ec]; omega) (by rw [ec]; omega), ec]
  have hz : (F1_draw B d).2 = (vp_updL B.1 0 (B.1 0 - (F1_draw B d).1), B.2) := rfl
  have hh : 0 ≤ (F1_draw B d).1.toInt ∧ (F1_draw B d).1.toInt ≤ d.toInt ∧ ((F1_draw B d).1.toInt = 0 ∨ (F1_draw B d).1.toInt ≤ (B.1 0).toInt - 200 * B.2.toInt) := by
    unfold F1_draw
    show 0 ≤ (if (if _ < d then _ else d) < (0 : Int64) then (0 : Int64) else (if _ < d then _ else d)).toInt ∧ (if (if _ < d then _ else d) < (0 : Int64) then (0 : Int64) else (if _ < d then _ else d)).toInt ≤ _ ∧ ((if (if _ < d then _ else d) < (0 : Int64) then (0 : Int64) else (if _ < d then _ else d)).toInt = 0 ∨ (if (if _ < d then _ else d) < (0 : Int64) then (0 : Int64) else (if _ < d then _ else d)).toInt ≤ _)
    generalize B.1 0 - (200 : Int64) * B.2.toInt64 = us at eu ⊢
    have e0 : (0 : Int64).toInt = 0 := by decide
    by_cases c1 : us < d
    · rw [if_pos c1]
      rw [lt64] at c1
      by_cases c2 : us < 0
      · rw [if_pos c2, e0]; omega
      · rw [if_neg c2]
        rw [lt64, e0] at c2
        omega
    · rw [if_neg c1]
      rw [lt64] at c1
      by_cases c2 : d < 0
      · rw [lt64, e0] at c2; omega
      · rw [if_neg c2]; omega
  generalize (F1_draw B d).1 = z at hz hh ⊢
  rw [hz]
  have es : (B.1 0 - z).toInt = (B.1 0).toInt - z.toInt := ar_s64 (by omega) (by omega)
  exact ⟨hh.1, hh.2.1, rfl, rfl, bd_upd hE (by rw [es]; omega) (by rw [es]; omega)⟩
