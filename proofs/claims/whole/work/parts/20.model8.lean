theorem w_dig {p : Int32} (h1 : 48 ≤ p.toInt) (h2 : p.toInt ≤ 57) : (p - (48 : Int32)).toInt = p.toInt - 48 := by
  rw [Int32.toInt_sub, show (48 : Int32).toInt = 48 from by decide, w_bm (by omega) (by omega)]
theorem w_ten {n p : Int32} (h0 : 0 ≤ n.toInt) (h9 : n.toInt ≤ 9) (h1 : 48 ≤ p.toInt) (h2 : p.toInt ≤ 57) : ((((10 : Int32) * n) + p) - (48 : Int32)).toInt = 10 * n.toInt + p.toInt - 48 := by
  rw [Int32.toInt_sub, Int32.toInt_add, Int32.toInt_mul, show (10 : Int32).toInt = 10 from by decide, show (48 : Int32).toInt = 48 from by decide, w_bm (x := 10 * n.toInt) (by omega) (by omega), w_bm (x := 10 * n.toInt + p.toInt) (by omega) (by omega), w_bm (by omega) (by omega)]
theorem th_ok {x0 : MoN} {x1 : SS} (hat : x0.2.2.1 ≤ x0.2.1) : tOk x0 (F11_takesHour x0 x1).2 ∧ ((F11_takesHour x0 x1).1 = true → x0.2.2.1 < (F11_takesHour x0 x1).2.2.2.1 ∧ 0 ≤ (F11_takesHour x0 x1).2.2.2.2.1.toInt ∧ (F11_takesHour x0 x1).2.2.2.2.1.toInt ≤ 23) := by
  unfold F11_takesHour
  by_cases c1 : F11_isDigit x0 x1 0 9 = true
  · rw [if_pos c1]
    obtain ⟨a1, -, a3, a4⟩ := dig_l c1
    rw [show ((48 : Int32) + 9).toInt = 57 from by decide] at a4
    have hn := w_dig a3 a4
    generalize F11_peek x0 x1 - (48 : Int32) = n at hn ⊢
    by_cases c2 : n = 1
    · rw [if_pos c2]
      have h1 : n.toInt = 1 := by rw [c2]; decide
      split
      · rename_i c3
        obtain ⟨b1, -, b3, b4⟩ := dig_l c3
        rw [show ((48 : Int32) + 9).toInt = 57 from by decide] at b4
        have ht := w_ten (n := n) (by omega) (by omega) b3 b4
        refine ⟨⟨rfl, rfl, Nat.le_succ_of_le (Nat.le_succ _), b1⟩, fun _ => ⟨Nat.lt_succ_of_le (Nat.le_succ _), ?_, ?_⟩⟩
        · show 0 ≤ ((((10 : Int32) * n) + _) - (48 : Int32)).toInt
          rw [ht]; omega
        · show ((((10 : Int32) * n) + _) - (48 : Int32)).toInt ≤ 23
          rw [ht]; omega
      · rw [if_neg (by rw [c2]; decide)]
        exact ⟨⟨rfl, rfl, Nat.le_succ _, a1⟩, fun _ => ⟨Nat.lt_succ_self _, by show 0 ≤ n.toInt; omega, by show n.toInt ≤ 23; omega⟩⟩
    · rw [if_neg c2]
      by_cases c4 : n = 2
      · rw [if_pos c4]
        have h1 : n.toInt = 2 := by rw [c4]; decide
        split
        · rename_i c3
          obtain ⟨b1, -, b3, b4⟩ := dig_l c3
          rw [show ((48 : Int32) + 3).toInt = 51 from by decide] at b4
          have ht := w_ten (n := n) (by omega) (by omega) b3 (by omega)
          refine ⟨⟨rfl, rfl, Nat.le_succ_of_le (Nat.le_succ _), b1⟩, fun _ => ⟨Nat.lt_succ_of_le (Nat.le_succ _), ?_, ?_⟩⟩
          · show 0 ≤ ((((10 : Int32) * n) + _) - (48 : Int32)).toInt
            rw [ht]; omega
          · show ((((10 : Int32) * n) + _) - (48 : Int32)).toInt ≤ 23
            rw [ht]; omega
        · exact ⟨⟨rfl, rfl, Nat.le_succ _, a1⟩, fun _ => ⟨Nat.lt_succ_self _, by show 0 ≤ n.toInt; omega, by show n.toInt ≤ 23; omega⟩⟩
      · rw [if_neg c4]
        exact ⟨⟨rfl, rfl, Nat.le_succ _, a1⟩, fun _ => ⟨Nat.lt_succ_self _, by show 0 ≤ n.toInt; omega, by show n.toInt ≤ 23; omega⟩⟩
  · rw [if_neg c1]
    exact ⟨⟨rfl, rfl, Nat.le_refl _, hat⟩, fun h => by cases h⟩
theorem tdl_ok (x0 : MoN) (x1 : SS) (z1 : Bool × MoN) (fu i : Nat) (x : MoN) : i ≤ 3 → 3 - i < fu → x.2.2.1 ≤ x.2.1 → tOk x (L11_takesDegrees_42 x0 x1 z1 fu i x).2 := by
  induction fu generalizing i x with
  | zero => intro _ h; exact absurd h (by omega)
  | succ fu ih =>
    intro h1 h2 h3
    unfold L11_takesDegrees_42
    split
    · exact ⟨rfl, rfl, Nat.le_refl _, h3⟩
    · split
      · exact ⟨rfl, rfl, Nat.le_refl _, h3⟩
      · split
        · rename_i c
          have b := (dig_l c).1
          refine tOk.t ?_ (ih _ _ (by omega) (by omega) b)
          exact ⟨rfl, rfl, Nat.le_succ _, b⟩
        · exact ⟨rfl, rfl, Nat.le_refl _, h3⟩
theorem td_ok {x0 : MoN} {x1 : SS} (hat : x0.2.2.1 ≤ x0.2.1) : tOk x0 (F11_takesDegrees x0 x1).2 ∧ ((F11_takesDegrees x0 x1).1 = true → x0.2.2.1 < (F11_takesDegrees x0 x1).2.2.2.1) := by
  unfold F11_takesDegrees K11_takesDegrees_1
  have h1 := takes_ok (x1 := x1) (p1 := 45) hat (by decide)
  generalize F11_takes x0 x1 45 = z at h1
  by_cases c : F11_isDigit z.2 x1 0 9 = true
  · rw [if_pos c]
    have b := (dig_l c).1
    have h2 := tdl_ok x0 x1 z 4 1 (z.2.1, z.2.2.1, (z.2.2.2.1 + 1), ((F11_peek z.2 x1) - (48 : Int32)), z.2.2.2.2.2.1, z.2.2.2.2.2.2.1, z.2.2.2.2.2.2.2.1, z.2.2.2.2.2.2.2.2) (by omega) (by omega) b
    generalize L11_takesDegrees_42 x0 x1 z 4 1 _ = y at h2 ⊢
    obtain ⟨e1, e2, e3, e4⟩ := h2
    obtain ⟨d1, d2, d3, d4⟩ := h1
    have e3 : z.2.2.2.1 + 1 ≤ y.2.2.2.1 := e3
    have e1 : y.2.1 = z.2.1 := e1
    have e2 : y.2.2.1 = z.2.2.1 := e2
    exact ⟨⟨e1.trans d1, e2.trans d2, (by omega : x0.2.2.1 ≤ y.2.2.2.1), e4⟩, fun _ => (by omega : x0.2.2.1 < y.2.2.2.1)⟩
  · rw [if_neg c]
    exact ⟨h1, fun h => by cases h⟩
def K11_takesEntry_8 (x0 : MoN) (x1 : SS) (z1 : Bool × MoN) (z3 : Bool × MoN) (z5 : Bool × MoN) (z7 : Bool × MoN) (z9 : Bool × MoN) (z11 : Bool × MoN) (z13 : Bool × MoN) (z15 : Bool × MoN) : Bool × MoN := (z15.1, z15.2)
def K11_takesEntry_9 (x0 : MoN) (x1 : SS) (z1 : Bool × MoN) (z3 : Bool × MoN) (z5 : Bool × MoN) (z7 : Bool × MoN) (z9 : Bool × MoN) (z11 : Bool × MoN) (z13 : Bool × MoN) (z16 : Bool × MoN) : Bool × MoN := (z16.1, z16.2)
def K11_takesEntry_7 (x0 : MoN) (x1 : SS) (z1 : Bool × MoN) (z3 : Bool × MoN) (z5 : Bool × MoN) (z7 : Bool × MoN) (z9 : Bool × MoN) (z11 : Bool × MoN) (z13 : Bool × MoN) : Bool × MoN := (if z13.1 = true then (K11_takesEntry_9 x0 x1 z1 z3 z5 z7 z9 z11 z13 (F11_takes (z13.2.1, z13.2.2.1, z13.2.2.2.1, z13.2.2.2.2.1, z13.2.2.2.2.2.1, z13.2.2.2.2.2.2.1, z13.2.2.2.2.2.2.2.1, (2 : Int32)) x1 (59 : Int32))) else (K11_takesEntry_8 x0 x1 z1 z3 z5 z7 z9 z11 z13 (F11_takes (z13.2.1, z13.2.2.1, z13.2.2.2.1, z13.2.2.2.2.1, z13.2.2.2.2.2.1, z13.2.2.2.2.2.2.1, z13.2.2.2.2.2.2.2.1, (-1 : Int32)) x1 (59 : Int32))))
def K11_takesEntry_10 (x0 : MoN) (x1 : SS) (z1 : Bool × MoN) (z3 : Bool × MoN) (z5 : Bool × MoN) (z7 : Bool × MoN) (z9 : Bool × MoN) (z11 : Bool × MoN) (z17 : Bool × MoN) : Bool × MoN := (z17.1, z17.2)
def K11_takesEntry_6 (x0 : MoN) (x1 : SS) (z1 : Bool × MoN) (z3 : Bool × MoN) (z5 : Bool × MoN) (z7 : Bool × MoN) (z9 : Bool × MoN) (z11 : Bool × MoN) : Bool × MoN := (if z11.1 = true then (K11_takesEntry_10 x0 x1 z1 z3 z5 z7 z9 z11 (F11_takes (z11.2.1, z11.2.2.1, z11.2.2.2.1, z11.2.2.2.2.1, z11.2.2.2.2.2.1, z11.2.2.2.2.2.2.1, z11.2.2.2.2.2.2.2.1, (1 : Int32)) x1 (59 : Int32))) else (K11_takesEntry_7 x0 x1 z1 z3 z5 z7 z9 z11 (F11_takes z11.2 x1 (112 : Int32))))
def K11_takesEntry_11 (x0 : MoN) (x1 : SS) (z1 : Bool × MoN) (z3 : Bool × MoN) (z5 : Bool × MoN) (z7 : Bool × MoN) (z9 : Bool × MoN) (z18 : Bool × MoN) : Bool × MoN := (z18.1, z18.2)
def K11_takesEntry_5 (x0 : MoN) (x1 : SS) (z1 : Bool × MoN) (z3 : Bool × MoN) (z5 : Bool × MoN) (z7 : Bool × MoN) (z9 : Bool × MoN) : Bool × MoN := (if z9.1 = true then (K11_takesEntry_11 x0 x1 z1 z3 z5 z7 z9 (F11_takes (z9.2.1, z9.2.2.1, z9.2.2.2.1, z9.2.2.2.2.1, z9.2.2.2.2.2.1, z9.2.2.2.2.2.2.1, z9.2.2.2.2.2.2.2.1, (0 : Int32)) x1 (59 : Int32))) else (K11_takesEntry_6 x0 x1 z1 z3 z5 z7 z9 (F11_takes z9.2 x1 (110 : Int32))))
def K11_takesEntry_4 (x0 : MoN) (x1 : SS) (z1 : Bool × MoN) (z3 : Bool × MoN) (z5 : Bool × MoN) (z7 : Bool × MoN) : Bool × MoN := (if z7.1 = true then (K11_takesEntry_5 x0 x1 z1 z3 z5 z7 (F11_takes z7.2 x1 (99 : Int32))) else (false, z7.2))
def K11_takesEntry_3 (x0 : MoN) (x1 : SS) (z1 : Bool × MoN) (z3 : Bool × MoN) (z5 : Bool × MoN) : Bool × MoN := (if z5.1 = true then (K11_takesEntry_4 x0 x1 z1 z3 z5 (F11_takesDegrees z5.2 x1)) else (false, z5.2))
def K11_takesEntry_18 (x0 : MoN) (x1 : SS) (z1 : Bool × MoN) (z3 : Bool × MoN) (z19 : Bool × MoN) (z21 : Bool × MoN) (z23 : Bool × MoN) (z25 : Bool × MoN) (z27 : Bool × MoN) (z29 : Bool × MoN) (z31 : Bool × MoN) : Bool × MoN := (z31.1, z31.2)
def K11_takesEntry_19 (x0 : MoN) (x1 : SS) (z1 : Bool × MoN) (z3 : Bool × MoN) (z19 : Bool × MoN) (z21 : Bool × MoN) (z23 : Bool × MoN) (z25 : Bool × MoN) (z27 : Bool × MoN) (z29 : Bool × MoN) (z32 : Bool × MoN) : Bool × MoN := (z32.1, z32.2)
def K11_takesEntry_17 (x0 : MoN) (x1 : SS) (z1 : Bool × MoN) (z3 : Bool × MoN) (z19 : Bool × MoN) (z21 : Bool × MoN) (z23 : Bool × MoN) (z25 : Bool × MoN) (z27 : Bool × MoN) (z29 : Bool × MoN) : Bool × MoN := (if z29.1 = true then (K11_takesEntry_19 x0 x1 z1 z3 z19 z21 z23 z25 z27 z29 (F11_takes (z29.2.1, z29.2.2.1, z29.2.2.2.1, z29.2.2.2.2.1, z29.2.2.2.2.2.1, z29.2.2.2.2.2.2.1, z29.2.2.2.2.2.2.2.1, (2 : Int32)) x1 (59 : Int32))) else (K11_takesEntry_18 x0 x1 z1 z3 z19 z21 z23 z25 z27 z29 (F11_takes (z29.2.1, z29.2.2.1, z29.2.2.2.1, z29.2.2.2.2.1, z29.2.2.2.2.2.1, z29.2.2.2.2.2.2.1, z29.2.2.2.2.2.2.2.1, (-1 : Int32)) x1 (59 : Int32))))
def K11_takesEntry_20 (x0 : MoN) (x1 : SS) (z1 : Bool × MoN) (z3 : Bool × MoN) (z19 : Bool × MoN) (z21 : Bool × MoN) (z23 : Bool × MoN) (z25 : Bool × MoN) (z27 : Bool × MoN) (z33 : Bool × MoN) : Bool × MoN := (z33.1, z33.2)
def K11_takesEntry_16 (x0 : MoN) (x1 : SS) (z1 : Bool × MoN) (z3 : Bool × MoN) (z19 : Bool × MoN) (z21 : Bool × MoN) (z23 : Bool × MoN) (z25 : Bool × MoN) (z27 : Bool × MoN) : Bool × MoN := (if z27.1 = true then (K11_takesEntry_20 x0 x1 z1 z3 z19 z21 z23 z25 z27 (F11_takes (z27.2.1, z27.2.2.1, z27.2.2.2.1, z27.2.2.2.2.1, z27.2.2.2.2.2.1, z27.2.2.2.2.2.2.1, z27.2.2.2.2.2.2.2.1, (1 : Int32)) x1 (59 : Int32))) else (K11_takesEntry_17 x0 x1 z1 z3 z19 z21 z23 z25 z27 (F11_takes z27.2 x1 (112 : Int32))))
def K11_takesEntry_21 (x0 : MoN) (x1 : SS) (z1 : Bool × MoN) (z3 : Bool × MoN) (z19 : Bool × MoN) (z21 : Bool × MoN) (z23 : Bool × MoN) (z25 : Bool × MoN) (z34 : Bool × MoN) : Bool × MoN := (z34.1, z34.2)
def K11_takesEntry_15 (x0 : MoN) (x1 : SS) (z1 : Bool × MoN) (z3 : Bool × MoN) (z19 : Bool × MoN) (z21 : Bool × MoN) (z23 : Bool × MoN) (z25 : Bool × MoN) : Bool × MoN := (if z25.1 = true then (K11_takesEntry_21 x0 x1 z1 z3 z19 z21 z23 z25 (F11_takes (z25.2.1, z25.2.2.1, z25.2.2.2.1, z25.2.2.2.2.1, z25.2.2.2.2.2.1, z25.2.2.2.2.2.2.1, z25.2.2.2.2.2.2.2.1, (0 : Int32)) x1 (59 : Int32))) else (K11_takesEntry_16 x0 x1 z1 z3 z19 z21 z23 z25 (F11_takes z25.2 x1 (110 : Int32))))
def K11_takesEntry_14 (x0 : MoN) (x1 : SS) (z1 : Bool × MoN) (z3 : Bool × MoN) (z19 : Bool × MoN) (z21 : Bool × MoN) (z23 : Bool × MoN) : Bool × MoN := (if z23.1 = true then (K11_takesEntry_15 x0 x1 z1 z3 z19 z21 z23 (F11_takes z23.2 x1 (99 : Int32))) else (false, z23.2))
def K11_takesEntry_13 (x0 : MoN) (x1 : SS) (z1 : Bool × MoN) (z3 : Bool × MoN) (z19 : Bool × MoN) (z21 : Bool × MoN) : Bool × MoN := (if z21.1 = true then (K11_takesEntry_14 x0 x1 z1 z3 z19 z21 (F11_takesDegrees z21.2 x1)) else (false, z21.2))
def K11_takesEntry_12 (x0 : MoN) (x1 : SS) (z1 : Bool × MoN) (z3 : Bool × MoN) (z19 : Bool × MoN) : Bool × MoN := (if z19.1 = true then (K11_takesEntry_13 x0 x1 z1 z3 z19 (F11_takes (z19.2.1, z19.2.2.1, z19.2.2.2.1, z19.2.2.2.2.1, z19.2.2.2.2.2.1, z19.2.2.2.2.1, z19.2.2.2.2.2.2.2.1, z19.2.2.2.2.2.2.2.2) x1 (58 : Int32))) else (false, z19.2))
def K11_takesEntry_2 (x0 : MoN) (x1 : SS) (z1 : Bool × MoN) (z3 : Bool × MoN) : Bool × MoN := (if z3.1 = true then (K11_takesEntry_12 x0 x1 z1 z3 (F11_takesHour z3.2 x1)) else (K11_takesEntry_3 x0 x1 z1 z3 (F11_takes z3.2 x1 (58 : Int32))))
def K11_takesEntry_1 (x0 : MoN) (x1 : SS) (z1 : Bool × MoN) : Bool × MoN := (if z1.1 = true then (K11_takesEntry_2 x0 x1 z1 (F11_takes (z1.2.1, z1.2.2.1, z1.2.2.2.1, z1.2.2.2.2.1, z1.2.2.2.2.1, z1.2.2.2.2.1, z1.2.2.2.2.2.2.2.1, z1.2.2.2.2.2.2.2.2) x1 (45 : Int32))) else (false, z1.2))
def F11_takesEntry (x0 : MoN) (x1 : SS) : Bool × MoN := (K11_takesEntry_1 x0 x1 (F11_takesHour x0 x1))
set_option maxHeartbeats 4000000 in
set_option maxRecDepth 100000 in
theorem m11_takesEntry (l : Launch) (D : va_G) (cI cL cP : ClassId) (b0 : Nat) (b1 : Nat) (b2 : Nat) (x0 : MoN) (x1 : SS) (hat : x0.2.2.1 ≤ x0.2.1) (hlen : x0.2.1 ≤ 100) (sz : Nat) : Met l yX11_takesEntry wsX11_takesEntry ({ frames := 3, cells := 0, slots := 0, locals := 69 }) (va_Pc [.ref b0] (pM D cI cL cP sz (wF [gN b0 b1 b2 x0, gI cI b2 100 x1]))) (va_Qi (fun (r : Int32) (w : MoN) => (r, w) = (bI (F11_takesEntry x0 x1).1, (F11_takesEntry x0 x1).2)) (qW D (va_A (wF [gN b0 b1 b2 x0, gI cI b2 100 x1]) sz) (fun w : MoN => (wF [gN b0 b1 b2 w, gI cI b2 100 x1]))) (va_A (wF [gN b0 b1 b2 x0, gI cI b2 100 x1]) sz)) 0 0 (va_A (wF [gN b0 b1 b2 x0, gI cI b2 100 x1]) sz) := by
  refine Met.ofW (cc := cX11_takesEntry) (maxL := 1) (ret := (some .boolean)) (by decide) rfl ?_
  intro p e s m args below meth c s₁ B hml hv
  obtain ⟨rfl, hsz, hP, hQ, hD0⟩ := hv
  have hx := B.exec
  have hb := B.bytes
  have hr := B.returns
  have hts := atoms_spec (ws := wsX11_takesEntry) B.pre
  have hown : s.vm.findClass RX11 = some m.cls := findClass_of_methodNamed B.named
  have hlocks := B.notSynchronized
  subst hsz
  have hD := hD0.self (sz := s.heap.size)
  generalize hAe : va_A (wF [gN b0 b1 b2 x0, gI cI b2 100 x1]) s.heap.size = A at hD ⊢
  have hA : ∀ q : Nat, s.heap.size ≤ q → A q := fun q h => by rw [← hAe]; exact Or.inr h
  have hS : va_S A s.heap s.heap [] := va_S.rf
  have hP : va_P D vwCl (wF [gN b0 b1 b2 x0, gI cI b2 100 x1]) s.heap := hP
  have hl := lv_entry ([.ref b0]) (n := 1) (Nat.le_of_ble_eq_true rfl)
  rw [lg_entry_eq]
  generalize (lg_sl ([.ref b0]) ++ List.replicate (1 - (lg_sl ([.ref b0])).length) Slot.unset).toArray = ls at hl ⊢
  have hl : lv_has ls 1 [(0, .ref b0)] := hl
  have hinX11 : ∀ w ∈ wsX110, w ∈ wsX11_takesEntry := fun _ h => List.mem_cons_of_mem _ (List.mem_append_right _ h)
  refine lv_aload_n hx hb dX11_takesEntry_0 rfl (lv_at hl 0 rfl) ?_
  have hPc : va_P D vwCl (wF [gN b0 b1 b2 x0, gI cI b2 100 x1]) s.heap := w_psub hP [0, 1] rfl
  have hDc : va_D A (wF [gN b0 b1 b2 x0, gI cI b2 100 x1]) := w_gsub hD [0, 1] rfl rfl
  refine c_Mz (F := F11_takesHour x0 x1) (G1 := (fun w => [gN b0 b1 b2 w, gI cI b2 100 x1])) (Gr := []) (Gs' := fun z1 => [gN b0 b1 b2 z1.2, gI cI b2 100 x1]) (va_runV (As := []) (rest := []) ⟨hx, hb, hml, hown, hts⟩ (m11_takesHour l D cI cL cP b0 b1 b2 x0 x1 (show x0.2.2.1 ≤ x0.2.1 by omega) (show x0.2.1 ≤ 100 by omega) s.heap.size) (cwV 0 hts gX11_takesEntry_X11_takesHour rfl rfl rfl (by decide +kernel) ⟨Nat.le_of_ble_eq_true rfl, Nat.le_of_ble_eq_true rfl⟩) (preM_V (q := (RX11, TX11, 10)) (q0 := 0) hQ hPc hDc rfl rfl) rfl rfl hl.1 rfl (lv_room (Nat.le_of_ble_eq_true rfl)) dX11_takesEntry_1 ⟨Nat.le_of_ble_eq_true rfl, Nat.le_of_ble_eq_true rfl⟩) hS hA hP hD [0, 1] [] [0, 1] rfl rfl rfl rfl rfl (fun _ => rfl) (fun z1 H locs hz1 hP hD hS => ?_)
  have hP : va_P D vwCl (wF [gN b0 b1 b2 z1.2, gI cI b2 100 x1]) H := hP
  have hD : va_D A (wF [gN b0 b1 b2 z1.2, gI cI b2 100 x1]) := hD
  have htk_z1 : tOk x0 z1.2 := by rw [hz1]; exact (th_ok (show x0.2.2.1 ≤ x0.2.1 by omega)).1
  have hta_z1 : z1.2.2.2.1 ≤ z1.2.2.1 := htk_z1.2.2.2
  have htl_z1 : z1.2.2.1 = x0.2.1 := htk_z1.2.1
  have htm_z1 : x0.2.2.1 ≤ z1.2.2.2.1 := htk_z1.2.2.1
  refine lv_if_ne (tgt := 9) hx hb dX11_takesEntry_4 (by decide) (fun c2 => ?_) (fun c2 => ?_)
  · have c2 : z1.1 = true := bI_1.mp c2
    refine lv_aload_n hx hb dX11_takesEntry_9 rfl (lv_at hl 0 rfl) ?_
    refine lv_aload_n hx hb dX11_takesEntry_10 rfl (lv_at hl 0 rfl) ?_
    refine va_get (D := D) (ci := 11) (v := .int z1.2.2.2.2.1) (C := RX11) (T := TX11) (N := 10) hx hb hts hinX11 hown hQ.1 hP 0 rfl rfl 5 (by decide) (hts (.fieldLink RX11 214 "HeatPumpPlantModel" "number" "I") (List.mem_of_getElem? (i := 1) rfl)) (fun _ h9 => h9) rfl dX11_takesEntry_11 ?_
    refine va_put (D := D) (ci := 11) (v := .int z1.2.2.2.2.1) (ty := .int) (C := RX11) (T := TX11) (N := 10) hx hb hts hinX11 tyX11 tyX11_ok nmX11 hown hQ.1 hP hD hS 0 rfl rfl 6 (by decide) (hts (.fieldLink RX11 227 "HeatPumpPlantModel" "from" "I") (List.mem_of_getElem? (i := 2) rfl)) (fun _ h9 => h9) rfl (by decide +kernel) rfl rfl (Nat.le_of_ble_eq_true rfl) dX11_takesEntry_14 (fun H locs hP hD hS => ?_)
    have hP : va_P D vwCl (wF [gN b0 b1 b2 (z1.2.1, z1.2.2.1, z1.2.2.2.1, z1.2.2.2.2.1, z1.2.2.2.2.1, z1.2.2.2.2.2.2.1, z1.2.2.2.2.2.2.2.1, z1.2.2.2.2.2.2.2.2), gI cI b2 100 x1]) H := hP
    have hD : va_D A (wF [gN b0 b1 b2 (z1.2.1, z1.2.2.1, z1.2.2.2.1, z1.2.2.2.2.1, z1.2.2.2.2.1, z1.2.2.2.2.2.2.1, z1.2.2.2.2.2.2.2.1, z1.2.2.2.2.2.2.2.2), gI cI b2 100 x1]) := hD
    refine lv_aload_n hx hb dX11_takesEntry_17 rfl (lv_at hl 0 rfl) ?_
    refine lv_aload_n hx hb dX11_takesEntry_18 rfl (lv_at hl 0 rfl) ?_
    refine va_get (D := D) (ci := 11) (v := .int z1.2.2.2.2.1) (C := RX11) (T := TX11) (N := 10) hx hb hts hinX11 hown hQ.1 hP 0 rfl rfl 5 (by decide) (hts (.fieldLink RX11 214 "HeatPumpPlantModel" "number" "I") (List.mem_of_getElem? (i := 1) rfl)) (fun _ h9 => h9) rfl dX11_takesEntry_19 ?_
    refine va_put (D := D) (ci := 11) (v := .int z1.2.2.2.2.1) (ty := .int) (C := RX11) (T := TX11) (N := 10) hx hb hts hinX11 tyX11 tyX11_ok nmX11 hown hQ.1 hP hD hS 0 rfl rfl 7 (by decide) (hts (.fieldLink RX11 230 "HeatPumpPlantModel" "to" "I") (List.mem_of_getElem? (i := 3) rfl)) (fun _ h9 => h9) rfl (by decide +kernel) rfl rfl (Nat.le_of_ble_eq_true rfl) dX11_takesEntry_22 (fun H locs hP hD hS => ?_)
    have hP : va_P D vwCl (wF [gN b0 b1 b2 (z1.2.1, z1.2.2.1, z1.2.2.2.1, z1.2.2.2.2.1, z1.2.2.2.2.1, z1.2.2.2.2.1, z1.2.2.2.2.2.2.2.1, z1.2.2.2.2.2.2.2.2), gI cI b2 100 x1]) H := hP
    have hD : va_D A (wF [gN b0 b1 b2 (z1.2.1, z1.2.2.1, z1.2.2.2.1, z1.2.2.2.2.1, z1.2.2.2.2.1, z1.2.2.2.2.1, z1.2.2.2.2.2.2.2.1, z1.2.2.2.2.2.2.2.2), gI cI b2 100 x1]) := hD
    refine lv_aload_n hx hb dX11_takesEntry_25 rfl (lv_at hl 0 rfl) ?_
    refine lv_bipush (v := (45 : Int32)) hx hb dX11_takesEntry_26 (by decide) ?_
    have hPc : va_P D vwCl (wF [gN b0 b1 b2 (z1.2.1, z1.2.2.1, z1.2.2.2.1, z1.2.2.2.2.1, z1.2.2.2.2.1, z1.2.2.2.2.1, z1.2.2.2.2.2.2.2.1, z1.2.2.2.2.2.2.2.2), gI cI b2 100 x1]) H := w_psub hP [0, 1] rfl
    have hDc : va_D A (wF [gN b0 b1 b2 (z1.2.1, z1.2.2.1, z1.2.2.2.1, z1.2.2.2.2.1, z1.2.2.2.2.1, z1.2.2.2.2.1, z1.2.2.2.2.2.2.2.1, z1.2.2.2.2.2.2.2.2), gI cI b2 100 x1]) := w_gsub hD [0, 1] rfl rfl
    refine c_Mz (F := F11_takes (z1.2.1, z1.2.2.1, z1.2.2.2.1, z1.2.2.2.2.1, z1.2.2.2.2.1, z1.2.2.2.2.1, z1.2.2.2.2.2.2.2.1, z1.2.2.2.2.2.2.2.2) x1 (45 : Int32)) (G1 := (fun w => [gN b0 b1 b2 w, gI cI b2 100 x1])) (Gr := []) (Gs' := fun z3 => [gN b0 b1 b2 z3.2, gI cI b2 100 x1]) (va_runV (As := [.int (45 : Int32)]) (rest := []) ⟨hx, hb, hml, hown, hts⟩ (m11_takes l D cI cL cP b0 b1 b2 (z1.2.1, z1.2.2.1, z1.2.2.2.1, z1.2.2.2.2.1, z1.2.2.2.2.1, z1.2.2.2.2.1, z1.2.2.2.2.2.2.2.1, z1.2.2.2.2.2.2.2.2) x1 (45 : Int32) (show z1.2.2.2.1 ≤ z1.2.2.1 by omega) (show z1.2.2.1 ≤ 100 by omega) H.size) (cwV 1 hts gX11_takesEntry_X11_takes rfl rfl rfl (by decide +kernel) ⟨Nat.le_of_ble_eq_true rfl, Nat.le_of_ble_eq_true rfl⟩) (preM_V (q := (RX11, TX11, 10)) (q0 := 0) hQ hPc hDc rfl rfl) rfl rfl hl.1 rfl (lv_room (Nat.le_of_ble_eq_true rfl)) dX11_takesEntry_28 ⟨Nat.le_of_ble_eq_true rfl, Nat.le_of_ble_eq_true rfl⟩) hS hA hP hD [0, 1] [] [0, 1] rfl rfl rfl rfl rfl (fun _ => rfl) (fun z3 H locs hz3 hP hD hS => ?_)
    have hP : va_P D vwCl (wF [gN b0 b1 b2 z3.2, gI cI b2 100 x1]) H := hP
    have hD : va_D A (wF [gN b0 b1 b2 z3.2, gI cI b2 100 x1]) := hD
    have htk_z3 : tOk (z1.2.1, z1.2.2.1, z1.2.2.2.1, z1.2.2.2.2.1, z1.2.2.2.2.1, z1.2.2.2.2.1, z1.2.2.2.2.2.2.2.1, z1.2.2.2.2.2.2.2.2) z3.2 := by rw [hz3]; exact takes_ok (show z1.2.2.2.1 ≤ z1.2.2.1 by omega) (by decide)
    have hta_z3 : z3.2.2.2.1 ≤ z3.2.2.1 := htk_z3.2.2.2
    have htl_z3 : z3.2.2.1 = z1.2.2.1 := htk_z3.2.1
    have htm_z3 : z1.2.2.2.1 ≤ z3.2.2.2.1 := htk_z3.2.2.1
    refine lv_if_eq (tgt := 51) hx hb dX11_takesEntry_31 (by decide) (fun c4 => ?_) (fun c4 => ?_)
    · have c4 : ¬ (z3.1 = true) := bI_0.mp c4
      refine lv_aload_n hx hb dX11_takesEntry_51 rfl (lv_at hl 0 rfl) ?_
      refine lv_bipush (v := (58 : Int32)) hx hb dX11_takesEntry_52 (by decide) ?_
      have hPc : va_P D vwCl (wF [gN b0 b1 b2 z3.2, gI cI b2 100 x1]) H := w_psub hP [0, 1] rfl
      have hDc : va_D A (wF [gN b0 b1 b2 z3.2, gI cI b2 100 x1]) := w_gsub hD [0, 1] rfl rfl
      refine c_Mz (F := F11_takes z3.2 x1 (58 : Int32)) (G1 := (fun w => [gN b0 b1 b2 w, gI cI b2 100 x1])) (Gr := []) (Gs' := fun z5 => [gN b0 b1 b2 z5.2, gI cI b2 100 x1]) (va_runV (As := [.int (58 : Int32)]) (rest := []) ⟨hx, hb, hml, hown, hts⟩ (m11_takes l D cI cL cP b0 b1 b2 z3.2 x1 (58 : Int32) (show z3.2.2.2.1 ≤ z3.2.2.1 by omega) (show z3.2.2.1 ≤ 100 by omega) H.size) (cwV 1 hts gX11_takesEntry_X11_takes rfl rfl rfl (by decide +kernel) ⟨Nat.le_of_ble_eq_true rfl, Nat.le_of_ble_eq_true rfl⟩) (preM_V (q := (RX11, TX11, 10)) (q0 := 0) hQ hPc hDc rfl rfl) rfl rfl hl.1 rfl (lv_room (Nat.le_of_ble_eq_true rfl)) dX11_takesEntry_54 ⟨Nat.le_of_ble_eq_true rfl, Nat.le_of_ble_eq_true rfl⟩) hS hA hP hD [0, 1] [] [0, 1] rfl rfl rfl rfl rfl (fun _ => rfl) (fun z5 H locs hz5 hP hD hS => ?_)
      have hP : va_P D vwCl (wF [gN b0 b1 b2 z5.2, gI cI b2 100 x1]) H := hP
      have hD : va_D A (wF [gN b0 b1 b2 z5.2, gI cI b2 100 x1]) := hD
      have htk_z5 : tOk z3.2 z5.2 := by rw [hz5]; exact takes_ok (show z3.2.2.2.1 ≤ z3.2.2.1 by omega) (by decide)
      have hta_z5 : z5.2.2.2.1 ≤ z5.2.2.1 := htk_z5.2.2.2
      have htl_z5 : z5.2.2.1 = z3.2.2.1 := htk_z5.2.1
      have htm_z5 : z3.2.2.2.1 ≤ z5.2.2.2.1 := htk_z5.2.2.1
      refine lv_if_eq (tgt := 67) hx hb dX11_takesEntry_57 (by decide) (fun c6 => ?_) (fun c6 => ?_)
      · have c6 : ¬ (z5.1 = true) := bI_0.mp c6
        refine lv_iconst (v := (0 : Int32)) hx hb dX11_takesEntry_67 (by decide) ?_
        exact W.zret (v := (0 : Int32)) (ty := .boolean) hx hb hr rfl (fun t ht hW => ⟨⟨(0 : Int32), z5.2, rfl, ((congrArg (fun q : Bool × MoN => (bI q.1, q.2)) (show F11_takesEntry x0 x1 = (false, z5.2) from Eq.trans (congrArg (K11_takesEntry_1 x0 x1) hz1.symm) (Eq.trans (if_pos c2) (Eq.trans (congrArg (K11_takesEntry_2 x0 x1 z1) hz3.symm) (Eq.trans (if_neg c4) (Eq.trans (congrArg (K11_takesEntry_3 x0 x1 z1 z3) hz5.symm) (Eq.trans (if_neg c6) (rfl)))))))).symm), by rw [ht]; exact hP, hD⟩, hS.F ht⟩) hS.2.2 dX11_takesEntry_68
      · have c6 : z5.1 = true := bI_1.mp c6
        refine lv_aload_n hx hb dX11_takesEntry_60 rfl (lv_at hl 0 rfl) ?_
        have hPc : va_P D vwCl (wF [gN b0 b1 b2 z5.2, gI cI b2 100 x1]) H := w_psub hP [0, 1] rfl
        have hDc : va_D A (wF [gN b0 b1 b2 z5.2, gI cI b2 100 x1]) := w_gsub hD [0, 1] rfl rfl
        refine c_Mz (F := F11_takesDegrees z5.2 x1) (G1 := (fun w => [gN b0 b1 b2 w, gI cI b2 100 x1])) (Gr := []) (Gs' := fun z7 => [gN b0 b1 b2 z7.2, gI cI b2 100 x1]) (va_runV (As := []) (rest := []) ⟨hx, hb, hml, hown, hts⟩ (m11_takesDegrees l D cI cL cP b0 b1 b2 z5.2 x1 (show z5.2.2.2.1 ≤ z5.2.2.1 by omega) (show z5.2.2.1 ≤ 100 by omega) H.size) (cwV 0 hts gX11_takesEntry_X11_takesDegrees rfl rfl rfl (by decide +kernel) ⟨Nat.le_of_ble_eq_true rfl, Nat.le_of_ble_eq_true rfl⟩) (preM_V (q := (RX11, TX11, 10)) (q0 := 0) hQ hPc hDc rfl rfl) rfl rfl hl.1 rfl (lv_room (Nat.le_of_ble_eq_true rfl)) dX11_takesEntry_61 ⟨Nat.le_of_ble_eq_true rfl, Nat.le_of_ble_eq_true rfl⟩) hS hA hP hD [0, 1] [] [0, 1] rfl rfl rfl rfl rfl (fun _ => rfl) (fun z7 H locs hz7 hP hD hS => ?_)
        have hP : va_P D vwCl (wF [gN b0 b1 b2 z7.2, gI cI b2 100 x1]) H := hP
        have hD : va_D A (wF [gN b0 b1 b2 z7.2, gI cI b2 100 x1]) := hD
        have htk_z7 : tOk z5.2 z7.2 := by rw [hz7]; exact (td_ok (show z5.2.2.2.1 ≤ z5.2.2.1 by omega)).1
        have hta_z7 : z7.2.2.2.1 ≤ z7.2.2.1 := htk_z7.2.2.2
        have htl_z7 : z7.2.2.1 = z5.2.2.1 := htk_z7.2.1
        have htm_z7 : z5.2.2.2.1 ≤ z7.2.2.2.1 := htk_z7.2.2.1
        refine lv_if_ne (tgt := 69) hx hb dX11_takesEntry_64 (by decide) (fun c8 => ?_) (fun c8 => ?_)
        · have c8 : z7.1 = true := bI_1.mp c8
          refine lv_aload_n hx hb dX11_takesEntry_69 rfl (lv_at hl 0 rfl) ?_
          refine lv_aload_n hx hb dX11_takesEntry_70 rfl (lv_at hl 0 rfl) ?_
          refine lv_bipush (v := (99 : Int32)) hx hb dX11_takesEntry_71 (by decide) ?_
          have hPc : va_P D vwCl (wF [gN b0 b1 b2 z7.2, gI cI b2 100 x1]) H := w_psub hP [0, 1] rfl
          have hDc : va_D A (wF [gN b0 b1 b2 z7.2, gI cI b2 100 x1]) := w_gsub hD [0, 1] rfl rfl
          refine c_Mz (F := F11_takes z7.2 x1 (99 : Int32)) (G1 := (fun w => [gN b0 b1 b2 w, gI cI b2 100 x1])) (Gr := []) (Gs' := fun z9 => [gN b0 b1 b2 z9.2, gI cI b2 100 x1]) (va_runV (As := [.int (99 : Int32)]) (rest := [.ref b0]) ⟨hx, hb, hml, hown, hts⟩ (m11_takes l D cI cL cP b0 b1 b2 z7.2 x1 (99 : Int32) (show z7.2.2.2.1 ≤ z7.2.2.1 by omega) (show z7.2.2.1 ≤ 100 by omega) H.size) (cwV 1 hts gX11_takesEntry_X11_takes rfl rfl rfl (by decide +kernel) ⟨Nat.le_of_ble_eq_true rfl, Nat.le_of_ble_eq_true rfl⟩) (preM_V (q := (RX11, TX11, 10)) (q0 := 0) hQ hPc hDc rfl rfl) rfl rfl hl.1 rfl (lv_room (Nat.le_of_ble_eq_true rfl)) dX11_takesEntry_73 ⟨Nat.le_of_ble_eq_true rfl, Nat.le_of_ble_eq_true rfl⟩) hS hA hP hD [0, 1] [] [0, 1] rfl rfl rfl rfl rfl (fun _ => rfl) (fun z9 H locs hz9 hP hD hS => ?_)
          have hP : va_P D vwCl (wF [gN b0 b1 b2 z9.2, gI cI b2 100 x1]) H := hP
          have hD : va_D A (wF [gN b0 b1 b2 z9.2, gI cI b2 100 x1]) := hD
          have htk_z9 : tOk z7.2 z9.2 := by rw [hz9]; exact takes_ok (show z7.2.2.2.1 ≤ z7.2.2.1 by omega) (by decide)
          have hta_z9 : z9.2.2.2.1 ≤ z9.2.2.1 := htk_z9.2.2.2
          have htl_z9 : z9.2.2.1 = z7.2.2.1 := htk_z9.2.1
          have htm_z9 : z7.2.2.2.1 ≤ z9.2.2.2.1 := htk_z9.2.2.1
          refine lv_if_eq (tgt := 83) hx hb dX11_takesEntry_76 (by decide) (fun c10 => ?_) (fun c10 => ?_)
          · have c10 : ¬ (z9.1 = true) := bI_0.mp c10
            refine lv_aload_n hx hb dX11_takesEntry_83 rfl (lv_at hl 0 rfl) ?_
            refine lv_bipush (v := (110 : Int32)) hx hb dX11_takesEntry_84 (by decide) ?_
            have hPc : va_P D vwCl (wF [gN b0 b1 b2 z9.2, gI cI b2 100 x1]) H := w_psub hP [0, 1] rfl
            have hDc : va_D A (wF [gN b0 b1 b2 z9.2, gI cI b2 100 x1]) := w_gsub hD [0, 1] rfl rfl
            refine c_Mz (F := F11_takes z9.2 x1 (110 : Int32)) (G1 := (fun w => [gN b0 b1 b2 w, gI cI b2 100 x1])) (Gr := []) (Gs' := fun z11 => [gN b0 b1 b2 z11.2, gI cI b2 100 x1]) (va_runV (As := [.int (110 : Int32)]) (rest := [.ref b0]) ⟨hx, hb, hml, hown, hts⟩ (m11_takes l D cI cL cP b0 b1 b2 z9.2 x1 (110 : Int32) (show z9.2.2.2.1 ≤ z9.2.2.1 by omega) (show z9.2.2.1 ≤ 100 by omega) H.size) (cwV 1 hts gX11_takesEntry_X11_takes rfl rfl rfl (by decide +kernel) ⟨Nat.le_of_ble_eq_true rfl, Nat.le_of_ble_eq_true rfl⟩) (preM_V (q := (RX11, TX11, 10)) (q0 := 0) hQ hPc hDc rfl rfl) rfl rfl hl.1 rfl (lv_room (Nat.le_of_ble_eq_true rfl)) dX11_takesEntry_86 ⟨Nat.le_of_ble_eq_true rfl, Nat.le_of_ble_eq_true rfl⟩) hS hA hP hD [0, 1] [] [0, 1] rfl rfl rfl rfl rfl (fun _ => rfl) (fun z11 H locs hz11 hP hD hS => ?_)
            have hP : va_P D vwCl (wF [gN b0 b1 b2 z11.2, gI cI b2 100 x1]) H := hP
            have hD : va_D A (wF [gN b0 b1 b2 z11.2, gI cI b2 100 x1]) := hD
            have htk_z11 : tOk z9.2 z11.2 := by rw [hz11]; exact takes_ok (show z9.2.2.2.1 ≤ z9.2.2.1 by omega) (by decide)
            have hta_z11 : z11.2.2.2.1 ≤ z11.2.2.1 := htk_z11.2.2.2
            have htl_z11 : z11.2.2.1 = z9.2.2.1 := htk_z11.2.1
            have htm_z11 : z9.2.2.2.1 ≤ z11.2.2.2.1 := htk_z11.2.2.1
            refine lv_if_eq (tgt := 96) hx hb dX11_takesEntry_89 (by decide) (fun c12 => ?_) (fun c12 => ?_)
            · have c12 : ¬ (z11.1 = true) := bI_0.mp c12
              refine lv_aload_n hx hb dX11_takesEntry_96 rfl (lv_at hl 0 rfl) ?_
              refine lv_bipush (v := (112 : Int32)) hx hb dX11_takesEntry_97 (by decide) ?_
              have hPc : va_P D vwCl (wF [gN b0 b1 b2 z11.2, gI cI b2 100 x1]) H := w_psub hP [0, 1] rfl
              have hDc : va_D A (wF [gN b0 b1 b2 z11.2, gI cI b2 100 x1]) := w_gsub hD [0, 1] rfl rfl
              refine c_Mz (F := F11_takes z11.2 x1 (112 : Int32)) (G1 := (fun w => [gN b0 b1 b2 w, gI cI b2 100 x1])) (Gr := []) (Gs' := fun z13 => [gN b0 b1 b2 z13.2, gI cI b2 100 x1]) (va_runV (As := [.int (112 : Int32)]) (rest := [.ref b0]) ⟨hx, hb, hml, hown, hts⟩ (m11_takes l D cI cL cP b0 b1 b2 z11.2 x1 (112 : Int32) (show z11.2.2.2.1 ≤ z11.2.2.1 by omega) (show z11.2.2.1 ≤ 100 by omega) H.size) (cwV 1 hts gX11_takesEntry_X11_takes rfl rfl rfl (by decide +kernel) ⟨Nat.le_of_ble_eq_true rfl, Nat.le_of_ble_eq_true rfl⟩) (preM_V (q := (RX11, TX11, 10)) (q0 := 0) hQ hPc hDc rfl rfl) rfl rfl hl.1 rfl (lv_room (Nat.le_of_ble_eq_true rfl)) dX11_takesEntry_99 ⟨Nat.le_of_ble_eq_true rfl, Nat.le_of_ble_eq_true rfl⟩) hS hA hP hD [0, 1] [] [0, 1] rfl rfl rfl rfl rfl (fun _ => rfl) (fun z13 H locs hz13 hP hD hS => ?_)
              have hP : va_P D vwCl (wF [gN b0 b1 b2 z13.2, gI cI b2 100 x1]) H := hP
              have hD : va_D A (wF [gN b0 b1 b2 z13.2, gI cI b2 100 x1]) := hD
              have htk_z13 : tOk z11.2 z13.2 := by rw [hz13]; exact takes_ok (show z11.2.2.2.1 ≤ z11.2.2.1 by omega) (by decide)
              have hta_z13 : z13.2.2.2.1 ≤ z13.2.2.1 := htk_z13.2.2.2
              have htl_z13 : z13.2.2.1 = z11.2.2.1 := htk_z13.2.1
              have htm_z13 : z11.2.2.2.1 ≤ z13.2.2.2.1 := htk_z13.2.2.1
              refine lv_if_eq (tgt := 109) hx hb dX11_takesEntry_102 (by decide) (fun c14 => ?_) (fun c14 => ?_)
              · have c14 : ¬ (z13.1 = true) := bI_0.mp c14
                refine lv_iconst (v := (-1 : Int32)) hx hb dX11_takesEntry_109 (by decide) ?_
                refine va_put (D := D) (ci := 11) (v := .int (-1 : Int32)) (ty := .int) (C := RX11) (T := TX11) (N := 10) hx hb hts hinX11 tyX11 tyX11_ok nmX11 hown hQ.1 hP hD hS 0 rfl rfl 9 (by decide) (hts (.fieldLink RX11 236 "HeatPumpPlantModel" "tariff" "I") (List.mem_of_getElem? (i := 4) rfl)) (fun _ h9 => h9) rfl (by decide +kernel) rfl rfl (Nat.le_of_ble_eq_true rfl) dX11_takesEntry_110 (fun H locs hP hD hS => ?_)
                have hP : va_P D vwCl (wF [gN b0 b1 b2 (z13.2.1, z13.2.2.1, z13.2.2.2.1, z13.2.2.2.2.1, z13.2.2.2.2.2.1, z13.2.2.2.2.2.2.1, z13.2.2.2.2.2.2.2.1, (-1 : Int32)), gI cI b2 100 x1]) H := hP
                have hD : va_D A (wF [gN b0 b1 b2 (z13.2.1, z13.2.2.1, z13.2.2.2.1, z13.2.2.2.2.1, z13.2.2.2.2.2.1, z13.2.2.2.2.2.2.1, z13.2.2.2.2.2.2.2.1, (-1 : Int32)), gI cI b2 100 x1]) := hD
                refine lv_aload_n hx hb dX11_takesEntry_113 rfl (lv_at hl 0 rfl) ?_
                refine lv_bipush (v := (59 : Int32)) hx hb dX11_takesEntry_114 (by decide) ?_
                have hPc : va_P D vwCl (wF [gN b0 b1 b2 (z13.2.1, z13.2.2.1, z13.2.2.2.1, z13.2.2.2.2.1, z13.2.2.2.2.2.1, z13.2.2.2.2.2.2.1, z13.2.2.2.2.2.2.2.1, (-1 : Int32)), gI cI b2 100 x1]) H := w_psub hP [0, 1] rfl
                have hDc : va_D A (wF [gN b0 b1 b2 (z13.2.1, z13.2.2.1, z13.2.2.2.1, z13.2.2.2.2.1, z13.2.2.2.2.2.1, z13.2.2.2.2.2.2.1, z13.2.2.2.2.2.2.2.1, (-1 : Int32)), gI cI b2 100 x1]) := w_gsub hD [0, 1] rfl rfl
                refine c_Mz (F := F11_takes (z13.2.1, z13.2.2.1, z13.2.2.2.1, z13.2.2.2.2.1, z13.2.2.2.2.2.1, z13.2.2.2.2.2.2.1, z13.2.2.2.2.2.2.2.1, (-1 : Int32)) x1 (59 : Int32)) (G1 := (fun w => [gN b0 b1 b2 w, gI cI b2 100 x1])) (Gr := []) (Gs' := fun z15 => [gN b0 b1 b2 z15.2, gI cI b2 100 x1]) (va_runV (As := [.int (59 : Int32)]) (rest := []) ⟨hx, hb, hml, hown, hts⟩ (m11_takes l D cI cL cP b0 b1 b2 (z13.2.1, z13.2.2.1, z13.2.2.2.1, z13.2.2.2.2.1, z13.2.2.2.2.2.1, z13.2.2.2.2.2.2.1, z13.2.2.2.2.2.2.2.1, (-1 : Int32)) x1 (59 : Int32) (show z13.2.2.2.1 ≤ z13.2.2.1 by omega) (show z13.2.2.1 ≤ 100 by omega) H.size) (cwV 1 hts gX11_takesEntry_X11_takes rfl rfl rfl (by decide +kernel) ⟨Nat.le_of_ble_eq_true rfl, Nat.le_of_ble_eq_true rfl⟩) (preM_V (q := (RX11, TX11, 10)) (q0 := 0) hQ hPc hDc rfl rfl) rfl rfl hl.1 rfl (lv_room (Nat.le_of_ble_eq_true rfl)) dX11_takesEntry_116 ⟨Nat.le_of_ble_eq_true rfl, Nat.le_of_ble_eq_true rfl⟩) hS hA hP hD [0, 1] [] [0, 1] rfl rfl rfl rfl rfl (fun _ => rfl) (fun z15 H locs hz15 hP hD hS => ?_)
                have hP : va_P D vwCl (wF [gN b0 b1 b2 z15.2, gI cI b2 100 x1]) H := hP
                have hD : va_D A (wF [gN b0 b1 b2 z15.2, gI cI b2 100 x1]) := hD
                have htk_z15 : tOk (z13.2.1, z13.2.2.1, z13.2.2.2.1, z13.2.2.2.2.1, z13.2.2.2.2.2.1, z13.2.2.2.2.2.2.1, z13.2.2.2.2.2.2.2.1, (-1 : Int32)) z15.2 := by rw [hz15]; exact takes_ok (show z13.2.2.2.1 ≤ z13.2.2.1 by omega) (by decide)
                have hta_z15 : z15.2.2.2.1 ≤ z15.2.2.1 := htk_z15.2.2.2
                have htl_z15 : z15.2.2.1 = z13.2.2.1 := htk_z15.2.1
                have htm_z15 : z13.2.2.2.1 ≤ z15.2.2.2.1 := htk_z15.2.2.1
                exact W.zret (v := (bI z15.1)) (ty := .boolean) hx hb hr (bI_n _) (fun t ht hW => ⟨⟨(bI z15.1), z15.2, rfl, ((congrArg (fun q : Bool × MoN => (bI q.1, q.2)) (show F11_takesEntry x0 x1 = (z15.1, z15.2) from Eq.trans (congrArg (K11_takesEntry_1 x0 x1) hz1.symm) (Eq.trans (if_pos c2) (Eq.trans (congrArg (K11_takesEntry_2 x0 x1 z1) hz3.symm) (Eq.trans (if_neg c4) (Eq.trans (congrArg (K11_takesEntry_3 x0 x1 z1 z3) hz5.symm) (Eq.trans (if_pos c6) (Eq.trans (congrArg (K11_takesEntry_4 x0 x1 z1 z3 z5) hz7.symm) (Eq.trans (if_pos c8) (Eq.trans (congrArg (K11_takesEntry_5 x0 x1 z1 z3 z5 z7) hz9.symm) (Eq.trans (if_neg c10) (Eq.trans (congrArg (K11_takesEntry_6 x0 x1 z1 z3 z5 z7 z9) hz11.symm) (Eq.trans (if_neg c12) (Eq.trans (congrArg (K11_takesEntry_7 x0 x1 z1 z3 z5 z7 z9 z11) hz13.symm) (Eq.trans (if_neg c14) (Eq.trans (congrArg (K11_takesEntry_8 x0 x1 z1 z3 z5 z7 z9 z11 z13) hz15.symm) (rfl))))))))))))))))).symm), by rw [ht]; exact hP, hD⟩, hS.F ht⟩) hS.2.2 dX11_takesEntry_119
              · have c14 : z13.1 = true := bI_1.mp c14
                refine lv_iconst (v := (2 : Int32)) hx hb dX11_takesEntry_105 (by decide) ?_
                refine lv_goto (tgt := 110) hx hb dX11_takesEntry_106 (by decide) ?_
                refine va_put (D := D) (ci := 11) (v := .int (2 : Int32)) (ty := .int) (C := RX11) (T := TX11) (N := 10) hx hb hts hinX11 tyX11 tyX11_ok nmX11 hown hQ.1 hP hD hS 0 rfl rfl 9 (by decide) (hts (.fieldLink RX11 236 "HeatPumpPlantModel" "tariff" "I") (List.mem_of_getElem? (i := 4) rfl)) (fun _ h9 => h9) rfl (by decide +kernel) rfl rfl (Nat.le_of_ble_eq_true rfl) dX11_takesEntry_110 (fun H locs hP hD hS => ?_)
                have hP : va_P D vwCl (wF [gN b0 b1 b2 (z13.2.1, z13.2.2.1, z13.2.2.2.1, z13.2.2.2.2.1, z13.2.2.2.2.2.1, z13.2.2.2.2.2.2.1, z13.2.2.2.2.2.2.2.1, (2 : Int32)), gI cI b2 100 x1]) H := hP
                have hD : va_D A (wF [gN b0 b1 b2 (z13.2.1, z13.2.2.1, z13.2.2.2.1, z13.2.2.2.2.1, z13.2.2.2.2.2.1, z13.2.2.2.2.2.2.1, z13.2.2.2.2.2.2.2.1, (2 : Int32)), gI cI b2 100 x1]) := hD
                refine lv_aload_n hx hb dX11_takesEntry_113 rfl (lv_at hl 0 rfl) ?_
                refine lv_bipush (v := (59 : Int32)) hx hb dX11_takesEntry_114 (by decide) ?_
                have hPc : va_P D vwCl (wF [gN b0 b1 b2 (z13.2.1, z13.2.2.1, z13.2.2.2.1, z13.2.2.2.2.1, z13.2.2.2.2.2.1, z13.2.2.2.2.2.2.1, z13.2.2.2.2.2.2.2.1, (2 : Int32)), gI cI b2 100 x1]) H := w_psub hP [0, 1] rfl
                have hDc : va_D A (wF [gN b0 b1 b2 (z13.2.1, z13.2.2.1, z13.2.2.2.1, z13.2.2.2.2.1, z13.2.2.2.2.2.1, z13.2.2.2.2.2.2.1, z13.2.2.2.2.2.2.2.1, (2 : Int32)), gI cI b2 100 x1]) := w_gsub hD [0, 1] rfl rfl
                refine c_Mz (F := F11_takes (z13.2.1, z13.2.2.1, z13.2.2.2.1, z13.2.2.2.2.1, z13.2.2.2.2.2.1, z13.2.2.2.2.2.2.1, z13.2.2.2.2.2.2.2.1, (2 : Int32)) x1 (59 : Int32)) (G1 := (fun w => [gN b0 b1 b2 w, gI cI b2 100 x1])) (Gr := []) (Gs' := fun z16 => [gN b0 b1 b2 z16.2, gI cI b2 100 x1]) (va_runV (As := [.int (59 : Int32)]) (rest := []) ⟨hx, hb, hml, hown, hts⟩ (m11_takes l D cI cL cP b0 b1 b2 (z13.2.1, z13.2.2.1, z13.2.2.2.1, z13.2.2.2.2.1, z13.2.2.2.2.2.1, z13.2.2.2.2.2.2.1, z13.2.2.2.2.2.2.2.1, (2 : Int32)) x1 (59 : Int32) (show z13.2.2.2.1 ≤ z13.2.2.1 by omega) (show z13.2.2.1 ≤ 100 by omega) H.size) (cwV 1 hts gX11_takesEntry_X11_takes rfl rfl rfl (by decide +kernel) ⟨Nat.le_of_ble_eq_true rfl, Nat.le_of_ble_eq_true rfl⟩) (preM_V (q := (RX11, TX11, 10)) (q0 := 0) hQ hPc hDc rfl rfl) rfl rfl hl.1 rfl (lv_room (Nat.le_of_ble_eq_true rfl)) dX11_takesEntry_116 ⟨Nat.le_of_ble_eq_true rfl, Nat.le_of_ble_eq_true rfl⟩) hS hA hP hD [0, 1] [] [0, 1] rfl rfl rfl rfl rfl (fun _ => rfl) (fun z16 H locs hz16 hP hD hS => ?_)
                have hP : va_P D vwCl (wF [gN b0 b1 b2 z16.2, gI cI b2 100 x1]) H := hP
                have hD : va_D A (wF [gN b0 b1 b2 z16.2, gI cI b2 100 x1]) := hD
                have htk_z16 : tOk (z13.2.1, z13.2.2.1, z13.2.2.2.1, z13.2.2.2.2.1, z13.2.2.2.2.2.1, z13.2.2.2.2.2.2.1, z13.2.2.2.2.2.2.2.1, (2 : Int32)) z16.2 := by rw [hz16]; exact takes_ok (show z13.2.2.2.1 ≤ z13.2.2.1 by omega) (by decide)
                have hta_z16 : z16.2.2.2.1 ≤ z16.2.2.1 := htk_z16.2.2.2
                have htl_z16 : z16.2.2.1 = z13.2.2.1 := htk_z16.2.1
                have htm_z16 : z13.2.2.2.1 ≤ z16.2.2.2.1 := htk_z16.2.2.1
                exact W.zret (v := (bI z16.1)) (ty := .boolean) hx hb hr (bI_n _) (fun t ht hW => ⟨⟨(bI z16.1), z16.2, rfl, ((congrArg (fun q : Bool × MoN => (bI q.1, q.2)) (show F11_takesEntry x0 x1 = (z16.1, z16.2) from Eq.trans (congrArg (K11_takesEntry_1 x0 x1) hz1.symm) (Eq.trans (if_pos c2) (Eq.trans (congrArg (K11_takesEntry_2 x0 x1 z1) hz3.symm) (Eq.trans (if_neg c4) (Eq.trans (congrArg (K11_takesEntry_3 x0 x1 z1 z3) hz5.symm) (Eq.trans (if_pos c6) (Eq.trans (congrArg (K11_takesEntry_4 x0 x1 z1 z3 z5) hz7.symm) (Eq.trans (if_pos c8) (Eq.trans (congrArg (K11_takesEntry_5 x0 x1 z1 z3 z5 z7) hz9.symm) (Eq.trans (if_neg c10) (Eq.trans (congrArg (K11_takesEntry_6 x0 x1 z1 z3 z5 z7 z9) hz11.symm) (Eq.trans (if_neg c12) (Eq.trans (congrArg (K11_takesEntry_7 x0 x1 z1 z3 z5 z7 z9 z11) hz13.symm) (Eq.trans (if_pos c14) (Eq.trans (congrArg (K11_takesEntry_9 x0 x1 z1 z3 z5 z7 z9 z11 z13) hz16.symm) (rfl))))))))))))))))).symm), by rw [ht]; exact hP, hD⟩, hS.F ht⟩) hS.2.2 dX11_takesEntry_119
            · have c12 : z11.1 = true := bI_1.mp c12
              refine lv_iconst (v := (1 : Int32)) hx hb dX11_takesEntry_92 (by decide) ?_
              refine lv_goto (tgt := 110) hx hb dX11_takesEntry_93 (by decide) ?_
              refine va_put (D := D) (ci := 11) (v := .int (1 : Int32)) (ty := .int) (C := RX11) (T := TX11) (N := 10) hx hb hts hinX11 tyX11 tyX11_ok nmX11 hown hQ.1 hP hD hS 0 rfl rfl 9 (by decide) (hts (.fieldLink RX11 236 "HeatPumpPlantModel" "tariff" "I") (List.mem_of_getElem? (i := 4) rfl)) (fun _ h9 => h9) rfl (by decide +kernel) rfl rfl (Nat.le_of_ble_eq_true rfl) dX11_takesEntry_110 (fun H locs hP hD hS => ?_)
              have hP : va_P D vwCl (wF [gN b0 b1 b2 (z11.2.1, z11.2.2.1, z11.2.2.2.1, z11.2.2.2.2.1, z11.2.2.2.2.2.1, z11.2.2.2.2.2.2.1, z11.2.2.2.2.2.2.2.1, (1 : Int32)), gI cI b2 100 x1]) H := hP
              have hD : va_D A (wF [gN b0 b1 b2 (z11.2.1, z11.2.2.1, z11.2.2.2.1, z11.2.2.2.2.1, z11.2.2.2.2.2.1, z11.2.2.2.2.2.2.1, z11.2.2.2.2.2.2.2.1, (1 : Int32)), gI cI b2 100 x1]) := hD
              refine lv_aload_n hx hb dX11_takesEntry_113 rfl (lv_at hl 0 rfl) ?_
              refine lv_bipush (v := (59 : Int32)) hx hb dX11_takesEntry_114 (by decide) ?_
              have hPc : va_P D vwCl (wF [gN b0 b1 b2 (z11.2.1, z11.2.2.1, z11.2.2.2.1, z11.2.2.2.2.1, z11.2.2.2.2.2.1, z11.2.2.2.2.2.2.1, z11.2.2.2.2.2.2.2.1, (1 : Int32)), gI cI b2 100 x1]) H := w_psub hP [0, 1] rfl
              have hDc : va_D A (wF [gN b0 b1 b2 (z11.2.1, z11.2.2.1, z11.2.2.2.1, z11.2.2.2.2.1, z11.2.2.2.2.2.1, z11.2.2.2.2.2.2.1, z11.2.2.2.2.2.2.2.1, (1 : Int32)), gI cI b2 100 x1]) := w_gsub hD [0, 1] rfl rfl
              refine c_Mz (F := F11_takes (z11.2.1, z11.2.2.1, z11.2.2.2.1, z11.2.2.2.2.1, z11.2.2.2.2.2.1, z11.2.2.2.2.2.2.1, z11.2.2.2.2.2.2.2.1, (1 : Int32)) x1 (59 : Int32)) (G1 := (fun w => [gN b0 b1 b2 w, gI cI b2 100 x1])) (Gr := []) (Gs' := fun z17 => [gN b0 b1 b2 z17.2, gI cI b2 100 x1]) (va_runV (As := [.int (59 : Int32)]) (rest := []) ⟨hx, hb, hml, hown, hts⟩ (m11_takes l D cI cL cP b0 b1 b2 (z11.2.1, z11.2.2.1, z11.2.2.2.1, z11.2.2.2.2.1, z11.2.2.2.2.2.1, z11.2.2.2.2.2.2.1, z11.2.2.2.2.2.2.2.1, (1 : Int32)) x1 (59 : Int32) (show z11.2.2.2.1 ≤ z11.2.2.1 by omega) (show z11.2.2.1 ≤ 100 by omega) H.size) (cwV 1 hts gX11_takesEntry_X11_takes rfl rfl rfl (by decide +kernel) ⟨Nat.le_of_ble_eq_true rfl, Nat.le_of_ble_eq_true rfl⟩) (preM_V (q := (RX11, TX11, 10)) (q0 := 0) hQ hPc hDc rfl rfl) rfl rfl hl.1 rfl (lv_room (Nat.le_of_ble_eq_true rfl)) dX11_takesEntry_116 ⟨Nat.le_of_ble_eq_true rfl, Nat.le_of_ble_eq_true rfl⟩) hS hA hP hD [0, 1] [] [0, 1] rfl rfl rfl rfl rfl (fun _ => rfl) (fun z17 H locs hz17 hP hD hS => ?_)
              have hP : va_P D vwCl (wF [gN b0 b1 b2 z17.2, gI cI b2 100 x1]) H := hP
              have hD : va_D A (wF [gN b0 b1 b2 z17.2, gI cI b2 100 x1]) := hD
              have htk_z17 : tOk (z11.2.1, z11.2.2.1, z11.2.2.2.1, z11.2.2.2.2.1, z11.2.2.2.2.2.1, z11.2.2.2.2.2.2.1, z11.2.2.2.2.2.2.2.1, (1 : Int32)) z17.2 := by rw [hz17]; exact takes_ok (show z11.2.2.2.1 ≤ z11.2.2.1 by omega) (by decide)
              have hta_z17 : z17.2.2.2.1 ≤ z17.2.2.1 := htk_z17.2.2.2
              have htl_z17 : z17.2.2.1 = z11.2.2.1 := htk_z17.2.1
              have htm_z17 : z11.2.2.2.1 ≤ z17.2.2.2.1 := htk_z17.2.2.1
              exact W.zret (v := (bI z17.1)) (ty := .boolean) hx hb hr (bI_n _) (fun t ht hW => ⟨⟨(bI z17.1), z17.2, rfl, ((congrArg (fun q : Bool × MoN => (bI q.1, q.2)) (show F11_takesEntry x0 x1 = (z17.1, z17.2) from Eq.trans (congrArg (K11_takesEntry_1 x0 x1) hz1.symm) (Eq.trans (if_pos c2) (Eq.trans (congrArg (K11_takesEntry_2 x0 x1 z1) hz3.symm) (Eq.trans (if_neg c4) (Eq.trans (congrArg (K11_takesEntry_3 x0 x1 z1 z3) hz5.symm) (Eq.trans (if_pos c6) (Eq.trans (congrArg (K11_takesEntry_4 x0 x1 z1 z3 z5) hz7.symm) (Eq.trans (if_pos c8) (Eq.trans (congrArg (K11_takesEntry_5 x0 x1 z1 z3 z5 z7) hz9.symm) (Eq.trans (if_neg c10) (Eq.trans (congrArg (K11_takesEntry_6 x0 x1 z1 z3 z5 z7 z9) hz11.symm) (Eq.trans (if_pos c12) (Eq.trans (congrArg (K11_takesEntry_10 x0 x1 z1 z3 z5 z7 z9 z11) hz17.symm) (rfl))))))))))))))).symm), by rw [ht]; exact hP, hD⟩, hS.F ht⟩) hS.2.2 dX11_takesEntry_119
          · have c10 : z9.1 = true := bI_1.mp c10
            refine lv_iconst (v := (0 : Int32)) hx hb dX11_takesEntry_79 (by decide) ?_
            refine lv_goto (tgt := 110) hx hb dX11_takesEntry_80 (by decide) ?_
            refine va_put (D := D) (ci := 11) (v := .int (0 : Int32)) (ty := .int) (C := RX11) (T := TX11) (N := 10) hx hb hts hinX11 tyX11 tyX11_ok nmX11 hown hQ.1 hP hD hS 0 rfl rfl 9 (by decide) (hts (.fieldLink RX11 236 "HeatPumpPlantModel" "tariff" "I") (List.mem_of_getElem? (i := 4) rfl)) (fun _ h9 => h9) rfl (by decide +kernel) rfl rfl (Nat.le_of_ble_eq_true rfl) dX11_takesEntry_110 (fun H locs hP hD hS => ?_)
            have hP : va_P D vwCl (wF [gN b0 b1 b2 (z9.2.1, z9.2.2.1, z9.2.2.2.1, z9.2.2.2.2.1, z9.2.2.2.2.2.1, z9.2.2.2.2.2.2.1, z9.2.2.2.2.2.2.2.1, (0 : Int32)), gI cI b2 100 x1]) H := hP
            have hD : va_D A (wF [gN b0 b1 b2 (z9.2.1, z9.2.2.1, z9.2.2.2.1, z9.2.2.2.2.1, z9.2.2.2.2.2.1, z9.2.2.2.2.2.2.1, z9.2.2.2.2.2.2.2.1, (0 : Int32)), gI cI b2 100 x1]) := hD
            refine lv_aload_n hx hb dX11_takesEntry_113 rfl (lv_at hl 0 rfl) ?_
            refine lv_bipush (v := (59 : Int32)) hx hb dX11_takesEntry_114 (by decide) ?_
            have hPc : va_P D vwCl (wF [gN b0 b1 b2 (z9.2.1, z9.2.2.1, z9.2.2.2.1, z9.2.2.2.2.1, z9.2.2.2.2.2.1, z9.2.2.2.2.2.2.1, z9.2.2.2.2.2.2.2.1, (0 : Int32)), gI cI b2 100 x1]) H := w_psub hP [0, 1] rfl
            have hDc : va_D A (wF [gN b0 b1 b2 (z9.2.1, z9.2.2.1, z9.2.2.2.1, z9.2.2.2.2.1, z9.2.2.2.2.2.1, z9.2.2.2.2.2.2.1, z9.2.2.2.2.2.2.2.1, (0 : Int32)), gI cI b2 100 x1]) := w_gsub hD [0, 1] rfl rfl
            refine c_Mz (F := F11_takes (z9.2.1, z9.2.2.1, z9.2.2.2.1, z9.2.2.2.2.1, z9.2.2.2.2.2.1, z9.2.2.2.2.2.2.1, z9.2.2.2.2.2.2.2.1, (0 : Int32)) x1 (59 : Int32)) (G1 := (fun w => [gN b0 b1 b2 w, gI cI b2 100 x1])) (Gr := []) (Gs' := fun z18 => [gN b0 b1 b2 z18.2, gI cI b2 100 x1]) (va_runV (As := [.int (59 : Int32)]) (rest := []) ⟨hx, hb, hml, hown, hts⟩ (m11_takes l D cI cL cP b0 b1 b2 (z9.2.1, z9.2.2.1, z9.2.2.2.1, z9.2.2.2.2.1, z9.2.2.2.2.2.1, z9.2.2.2.2.2.2.1, z9.2.2.2.2.2.2.2.1, (0 : Int32)) x1 (59 : Int32) (show z9.2.2.2.1 ≤ z9.2.2.1 by omega) (show z9.2.2.1 ≤ 100 by omega) H.size) (cwV 1 hts gX11_takesEntry_X11_takes rfl rfl rfl (by decide +kernel) ⟨Nat.le_of_ble_eq_true rfl, Nat.le_of_ble_eq_true rfl⟩) (preM_V (q := (RX11, TX11, 10)) (q0 := 0) hQ hPc hDc rfl rfl) rfl rfl hl.1 rfl (lv_room (Nat.le_of_ble_eq_true rfl)) dX11_takesEntry_116 ⟨Nat.le_of_ble_eq_true rfl, Nat.le_of_ble_eq_true rfl⟩) hS hA hP hD [0, 1] [] [0, 1] rfl rfl rfl rfl rfl (fun _ => rfl) (fun z18 H locs hz18 hP hD hS => ?_)
            have hP : va_P D vwCl (wF [gN b0 b1 b2 z18.2, gI cI b2 100 x1]) H := hP
            have hD : va_D A (wF [gN b0 b1 b2 z18.2, gI cI b2 100 x1]) := hD
            have htk_z18 : tOk (z9.2.1, z9.2.2.1, z9.2.2.2.1, z9.2.2.2.2.1, z9.2.2.2.2.2.1, z9.2.2.2.2.2.2.1, z9.2.2.2.2.2.2.2.1, (0 : Int32)) z18.2 := by rw [hz18]; exact takes_ok (show z9.2.2.2.1 ≤ z9.2.2.1 by omega) (by decide)
            have hta_z18 : z18.2.2.2.1 ≤ z18.2.2.1 := htk_z18.2.2.2
            have htl_z18 : z18.2.2.1 = z9.2.2.1 := htk_z18.2.1
            have htm_z18 : z9.2.2.2.1 ≤ z18.2.2.2.1 := htk_z18.2.2.1
            exact W.zret (v := (bI z18.1)) (ty := .boolean) hx hb hr (bI_n _) (fun t ht hW => ⟨⟨(bI z18.1), z18.2, rfl, ((congrArg (fun q : Bool × MoN => (bI q.1, q.2)) (show F11_takesEntry x0 x1 = (z18.1, z18.2) from Eq.trans (congrArg (K11_takesEntry_1 x0 x1) hz1.symm) (Eq.trans (if_pos c2) (Eq.trans (congrArg (K11_takesEntry_2 x0 x1 z1) hz3.symm) (Eq.trans (if_neg c4) (Eq.trans (congrArg (K11_takesEntry_3 x0 x1 z1 z3) hz5.symm) (Eq.trans (if_pos c6) (Eq.trans (congrArg (K11_takesEntry_4 x0 x1 z1 z3 z5) hz7.symm) (Eq.trans (if_pos c8) (Eq.trans (congrArg (K11_takesEntry_5 x0 x1 z1 z3 z5 z7) hz9.symm) (Eq.trans (if_pos c10) (Eq.trans (congrArg (K11_takesEntry_11 x0 x1 z1 z3 z5 z7 z9) hz18.symm) (rfl))))))))))))).symm), by rw [ht]; exact hP, hD⟩, hS.F ht⟩) hS.2.2 dX11_takesEntry_119
        · have c8 : ¬ (z7.1 = true) := bI_0.mp c8
          refine lv_iconst (v := (0 : Int32)) hx hb dX11_takesEntry_67 (by decide) ?_
          exact W.zret (v := (0 : Int32)) (ty := .boolean) hx hb hr rfl (fun t ht hW => ⟨⟨(0 : Int32), z7.2, rfl, ((congrArg (fun q : Bool × MoN => (bI q.1, q.2)) (show F11_takesEntry x0 x1 = (false, z7.2) from Eq.trans (congrArg (K11_takesEntry_1 x0 x1) hz1.symm) (Eq.trans (if_pos c2) (Eq.trans (congrArg (K11_takesEntry_2 x0 x1 z1) hz3.symm) (Eq.trans (if_neg c4) (Eq.trans (congrArg (K11_takesEntry_3 x0 x1 z1 z3) hz5.symm) (Eq.trans (if_pos c6) (Eq.trans (congrArg (K11_takesEntry_4 x0 x1 z1 z3 z5) hz7.symm) (Eq.trans (if_neg c8) (rfl)))))))))).symm), by rw [ht]; exact hP, hD⟩, hS.F ht⟩) hS.2.2 dX11_takesEntry_68
    · have c4 : z3.1 = true := bI_1.mp c4
      refine lv_aload_n hx hb dX11_takesEntry_34 rfl (lv_at hl 0 rfl) ?_
      have hPc : va_P D vwCl (wF [gN b0 b1 b2 z3.2, gI cI b2 100 x1]) H := w_psub hP [0, 1] rfl
      have hDc : va_D A (wF [gN b0 b1 b2 z3.2, gI cI b2 100 x1]) := w_gsub hD [0, 1] rfl rfl
      refine c_Mz (F := F11_takesHour z3.2 x1) (G1 := (fun w => [gN b0 b1 b2 w, gI cI b2 100 x1])) (Gr := []) (Gs' := fun z19 => [gN b0 b1 b2 z19.2, gI cI b2 100 x1]) (va_runV (As := []) (rest := []) ⟨hx, hb, hml, hown, hts⟩ (m11_takesHour l D cI cL cP b0 b1 b2 z3.2 x1 (show z3.2.2.2.1 ≤ z3.2.2.1 by omega) (show z3.2.2.1 ≤ 100 by omega) H.size) (cwV 0 hts gX11_takesEntry_X11_takesHour rfl rfl rfl (by decide +kernel) ⟨Nat.le_of_ble_eq_true rfl, Nat.le_of_ble_eq_true rfl⟩) (preM_V (q := (RX11, TX11, 10)) (q0 := 0) hQ hPc hDc rfl rfl) rfl rfl hl.1 rfl (lv_room (Nat.le_of_ble_eq_true rfl)) dX11_takesEntry_35 ⟨Nat.le_of_ble_eq_true rfl, Nat.le_of_ble_eq_true rfl⟩) hS hA hP hD [0, 1] [] [0, 1] rfl rfl rfl rfl rfl (fun _ => rfl) (fun z19 H locs hz19 hP hD hS => ?_)
      have hP : va_P D vwCl (wF [gN b0 b1 b2 z19.2, gI cI b2 100 x1]) H := hP
      have hD : va_D A (wF [gN b0 b1 b2 z19.2, gI cI b2 100 x1]) := hD
      have htk_z19 : tOk z3.2 z19.2 := by rw [hz19]; exact (th_ok (show z3.2.2.2.1 ≤ z3.2.2.1 by omega)).1
      have hta_z19 : z19.2.2.2.1 ≤ z19.2.2.1 := htk_z19.2.2.2
      have htl_z19 : z19.2.2.1 = z3.2.2.1 := htk_z19.2.1
      have htm_z19 : z3.2.2.2.1 ≤ z19.2.2.2.1 := htk_z19.2.2.1
      refine lv_if_ne (tgt := 43) hx hb dX11_takesEntry_38 (by decide) (fun c20 => ?_) (fun c20 => ?_)
      · have c20 : z19.1 = true := bI_1.mp c20
        refine lv_aload_n hx hb dX11_takesEntry_43 rfl (lv_at hl 0 rfl) ?_
        refine lv_aload_n hx hb dX11_takesEntry_44 rfl (lv_at hl 0 rfl) ?_
        refine va_get (D := D) (ci := 11) (v := .int z19.2.2.2.2.1) (C := RX11) (T := TX11) (N := 10) hx hb hts hinX11 hown hQ.1 hP 0 rfl rfl 5 (by decide) (hts (.fieldLink RX11 214 "HeatPumpPlantModel" "number" "I") (List.mem_of_getElem? (i := 1) rfl)) (fun _ h9 => h9) rfl dX11_takesEntry_45 ?_
        refine va_put (D := D) (ci := 11) (v := .int z19.2.2.2.2.1) (ty := .int) (C := RX11) (T := TX11) (N := 10) hx hb hts hinX11 tyX11 tyX11_ok nmX11 hown hQ.1 hP hD hS 0 rfl rfl 7 (by decide) (hts (.fieldLink RX11 230 "HeatPumpPlantModel" "to" "I") (List.mem_of_getElem? (i := 3) rfl)) (fun _ h9 => h9) rfl (by decide +kernel) rfl rfl (Nat.le_of_ble_eq_true rfl) dX11_takesEntry_48 (fun H locs hP hD hS => ?_)
        have hP : va_P D vwCl (wF [gN b0 b1 b2 (z19.2.1, z19.2.2.1, z19.2.2.2.1, z19.2.2.2.2.1, z19.2.2.2.2.2.1, z19.2.2.2.2.1, z19.2.2.2.2.2.2.2.1, z19.2.2.2.2.2.2.2.2), gI cI b2 100 x1]) H := hP
        have hD : va_D A (wF [gN b0 b1 b2 (z19.2.1, z19.2.2.1, z19.2.2.2.1, z19.2.2.2.2.1, z19.2.2.2.2.2.1, z19.2.2.2.2.1, z19.2.2.2.2.2.2.2.1, z19.2.2.2.2.2.2.2.2), gI cI b2 100 x1]) := hD
        refine lv_aload_n hx hb dX11_takesEntry_51 rfl (lv_at hl 0 rfl) ?_
        refine lv_bipush (v := (58 : Int32)) hx hb dX11_takesEntry_52 (by decide) ?_
        have hPc : va_P D vwCl (wF [gN b0 b1 b2 (z19.2.1, z19.2.2.1, z19.2.2.2.1, z19.2.2.2.2.1, z19.2.2.2.2.2.1, z19.2.2.2.2.1, z19.2.2.2.2.2.2.2.1, z19.2.2.2.2.2.2.2.2), gI cI b2 100 x1]) H := w_psub hP [0, 1] rfl
        have hDc : va_D A (wF [gN b0 b1 b2 (z19.2.1, z19.2.2.1, z19.2.2.2.1, z19.2.2.2.2.1, z19.2.2.2.2.2.1, z19.2.2.2.2.1, z19.2.2.2.2.2.2.2.1, z19.2.2.2.2.2.2.2.2), gI cI b2 100 x1]) := w_gsub hD [0, 1] rfl rfl
        refine c_Mz (F := F11_takes (z19.2.1, z19.2.2.1, z19.2.2.2.1, z19.2.2.2.2.1, z19.2.2.2.2.2.1, z19.2.2.2.2.1, z19.2.2.2.2.2.2.2.1, z19.2.2.2.2.2.2.2.2) x1 (58 : Int32)) (G1 := (fun w => [gN b0 b1 b2 w, gI cI b2 100 x1])) (Gr := []) (Gs' := fun z21 => [gN b0 b1 b2 z21.2, gI cI b2 100 x1]) (va_runV (As := [.int (58 : Int32)]) (rest := []) ⟨hx, hb, hml, hown, hts⟩ (m11_takes l D cI cL cP b0 b1 b2 (z19.2.1, z19.2.2.1, z19.2.2.2.1, z19.2.2.2.2.1, z19.2.2.2.2.2.1, z19.2.2.2.2.1, z19.2.2.2.2.2.2.2.1, z19.2.2.2.2.2.2.2.2) x1 (58 : Int32) (show z19.2.2.2.1 ≤ z19.2.2.1 by omega) (show z19.2.2.1 ≤ 100 by omega) H.size) (cwV 1 hts gX11_takesEntry_X11_takes rfl rfl rfl (by decide +kernel) ⟨Nat.le_of_ble_eq_true rfl, Nat.le_of_ble_eq_true rfl⟩) (preM_V (q := (RX11, TX11, 10)) (q0 := 0) hQ hPc hDc rfl rfl) rfl rfl hl.1 rfl (lv_room (Nat.le_of_ble_eq_true rfl)) dX11_takesEntry_54 ⟨Nat.le_of_ble_eq_true rfl, Nat.le_of_ble_eq_true rfl⟩) hS hA hP hD [0, 1] [] [0, 1] rfl rfl rfl rfl rfl (fun _ => rfl) (fun z21 H locs hz21 hP hD hS => ?_)
        have hP : va_P D vwCl (wF [gN b0 b1 b2 z21.2, gI cI b2 100 x1]) H := hP
        have hD : va_D A (wF [gN b0 b1 b2 z21.2, gI cI b2 100 x1]) := hD
        have htk_z21 : tOk (z19.2.1, z19.2.2.1, z19.2.2.2.1, z19.2.2.2.2.1, z19.2.2.2.2.2.1, z19.2.2.2.2.1, z19.2.2.2.2.2.2.2.1, z19.2.2.2.2.2.2.2.2) z21.2 := by rw [hz21]; exact takes_ok (show z19.2.2.2.1 ≤ z19.2.2.1 by omega) (by decide)
        have hta_z21 : z21.2.2.2.1 ≤ z21.2.2.1 := htk_z21.2.2.2
        have htl_z21 : z21.2.2.1 = z19.2.2.1 := htk_z21.2.1
        have htm_z21 : z19.2.2.2.1 ≤ z21.2.2.2.1 := htk_z21.2.2.1
        refine lv_if_eq (tgt := 67) hx hb dX11_takesEntry_57 (by decide) (fun c22 => ?_) (fun c22 => ?_)
        · have c22 : ¬ (z21.1 = true) := bI_0.mp c22
          refine lv_iconst (v := (0 : Int32)) hx hb dX11_takesEntry_67 (by decide) ?_
          exact W.zret (v := (0 : Int32)) (ty := .boolean) hx hb hr rfl (fun t ht hW => ⟨⟨(0 : Int32), z21.2, rfl, ((congrArg (fun q : Bool × MoN => (bI q.1, q.2)) (show F11_takesEntry x0 x1 = (false, z21.2) from Eq.trans (congrArg (K11_takesEntry_1 x0 x1) hz1.symm) (Eq.trans (if_pos c2) (Eq.trans (congrArg (K11_takesEntry_2 x0 x1 z1) hz3.symm) (Eq.trans (if_pos c4) (Eq.trans (congrArg (K11_takesEntry_12 x0 x1 z1 z3) hz19.symm) (Eq.trans (if_pos c20) (Eq.trans (congrArg (K11_takesEntry_13 x0 x1 z1 z3 z19) hz21.symm) (Eq.trans (if_neg c22) (rfl)))))))))).symm), by rw [ht]; exact hP, hD⟩, hS.F ht⟩) hS.2.2 dX11_takesEntry_68
        · have c22 : z21.1 = true := bI_1.mp c22
          refine lv_aload_n hx hb dX11_takesEntry_60 rfl (lv_at hl 0 rfl) ?_
          have hPc : va_P D vwCl (wF [gN b0 b1 b2 z21.2, gI cI b2 100 x1]) H := w_psub hP [0, 1] rfl
          have hDc : va_D A (wF [gN b0 b1 b2 z21.2, gI cI b2 100 x1]) := w_gsub hD [0, 1] rfl rfl
          refine c_Mz (F := F11_takesDegrees z21.2 x1) (G1 := (fun w => [gN b0 b1 b2 w, gI cI b2 100 x1])) (Gr := []) (Gs' := fun z23 => [gN b0 b1 b2 z23.2, gI cI b2 100 x1]) (va_runV (As := []) (rest := []) ⟨hx, hb, hml, hown, hts⟩ (m11_takesDegrees l D cI cL cP b0 b1 b2 z21.2 x1 (show z21.2.2.2.1 ≤ z21.2.2.1 by omega) (show z21.2.2.1 ≤ 100 by omega) H.size) (cwV 0 hts gX11_takesEntry_X11_takesDegrees rfl rfl rfl (by decide +kernel) ⟨Nat.le_of_ble_eq_true rfl, Nat.le_of_ble_eq_true rfl⟩) (preM_V (q := (RX11, TX11, 10)) (q0 := 0) hQ hPc hDc rfl rfl) rfl rfl hl.1 rfl (lv_room (Nat.le_of_ble_eq_true rfl)) dX11_takesEntry_61 ⟨Nat.le_of_ble_eq_true rfl, Nat.le_of_ble_eq_true rfl⟩) hS hA hP hD [0, 1] [] [0, 1] rfl rfl rfl rfl rfl (fun _ => rfl) (fun z23 H locs hz23 hP hD hS => ?_)
          have hP : va_P D vwCl (wF [gN b0 b1 b2 z23.2, gI cI b2 100 x1]) H := hP
          have hD : va_D A (wF [gN b0 b1 b2 z23.2, gI cI b2 100 x1]) := hD
          have htk_z23 : tOk z21.2 z23.2 := by rw [hz23]; exact (td_ok (show z21.2.2.2.1 ≤ z21.2.2.1 by omega)).1
          have hta_z23 : z23.2.2.2.1 ≤ z23.2.2.1 := htk_z23.2.2.2
          have htl_z23 : z23.2.2.1 = z21.2.2.1 := htk_z23.2.1
          have htm_z23 : z21.2.2.2.1 ≤ z23.2.2.2.1 := htk_z23.2.2.1
          refine lv_if_ne (tgt := 69) hx hb dX11_takesEntry_64 (by decide) (fun c24 => ?_) (fun c24 => ?_)
          · have c24 : z23.1 = true := bI_1.mp c24
            refine lv_aload_n hx hb dX11_takesEntry_69 rfl (lv_at hl 0 rfl) ?_
            refine lv_aload_n hx hb dX11_takesEntry_70 rfl (lv_at hl 0 rfl) ?_
            refine lv_bipush (v := (99 : Int32)) hx hb dX11_takesEntry_71 (by decide) ?_
            have hPc : va_P D vwCl (wF [gN b0 b1 b2 z23.2, gI cI b2 100 x1]) H := w_psub hP [0, 1] rfl
            have hDc : va_D A (wF [gN b0 b1 b2 z23.2, gI cI b2 100 x1]) := w_gsub hD [0, 1] rfl rfl
            refine c_Mz (F := F11_takes z23.2 x1 (99 : Int32)) (G1 := (fun w => [gN b0 b1 b2 w, gI cI b2 100 x1])) (Gr := []) (Gs' := fun z25 => [gN b0 b1 b2 z25.2, gI cI b2 100 x1]) (va_runV (As := [.int (99 : Int32)]) (rest := [.ref b0]) ⟨hx, hb, hml, hown, hts⟩ (m11_takes l D cI cL cP b0 b1 b2 z23.2 x1 (99 : Int32) (show z23.2.2.2.1 ≤ z23.2.2.1 by omega) (show z23.2.2.1 ≤ 100 by omega) H.size) (cwV 1 hts gX11_takesEntry_X11_takes rfl rfl rfl (by decide +kernel) ⟨Nat.le_of_ble_eq_true rfl, Nat.le_of_ble_eq_true rfl⟩) (preM_V (q := (RX11, TX11, 10)) (q0 := 0) hQ hPc hDc rfl rfl) rfl rfl hl.1 rfl (lv_room (Nat.le_of_ble_eq_true rfl)) dX11_takesEntry_73 ⟨Nat.le_of_ble_eq_true rfl, Nat.le_of_ble_eq_true rfl⟩) hS hA hP hD [0, 1] [] [0, 1] rfl rfl rfl rfl rfl (fun _ => rfl) (fun z25 H locs hz25 hP hD hS => ?_)
            have hP : va_P D vwCl (wF [gN b0 b1 b2 z25.2, gI cI b2 100 x1]) H := hP
            have hD : va_D A (wF [gN b0 b1 b2 z25.2, gI cI b2 100 x1]) := hD
            have htk_z25 : tOk z23.2 z25.2 := by rw [hz25]; exact takes_ok (show z23.2.2.2.1 ≤ z23.2.2.1 by omega) (by decide)
            have hta_z25 : z25.2.2.2.1 ≤ z25.2.2.1 := htk_z25.2.2.2
            have htl_z25 : z25.2.2.1 = z23.2.2.1 := htk_z25.2.1
            have htm_z25 : z23.2.2.2.1 ≤ z25.2.2.2.1 := htk_z25.2.2.1
            refine lv_if_eq (tgt := 83) hx hb dX11_takesEntry_76 (by decide) (fun c26 => ?_) (fun c26 => ?_)
            · have c26 : ¬ (z25.1 = true) := bI_0.mp c26
              refine lv_aload_n hx hb dX11_takesEntry_83 rfl (lv_at hl 0 rfl) ?_
              refine lv_bipush (v := (110 : Int32)) hx hb dX11_takesEntry_84 (by decide) ?_
              have hPc : va_P D vwCl (wF [gN b0 b1 b2 z25.2, gI cI b2 100 x1]) H := w_psub hP [0, 1] rfl
              have hDc : va_D A (wF [gN b0 b1 b2 z25.2, gI cI b2 100 x1]) := w_gsub hD [0, 1] rfl rfl
              refine c_Mz (F := F11_takes z25.2 x1 (110 : Int32)) (G1 := (fun w => [gN b0 b1 b2 w, gI cI b2 100 x1])) (Gr := []) (Gs' := fun z27 => [gN b0 b1 b2 z27.2, gI cI b2 100 x1]) (va_runV (As := [.int (110 : Int32)]) (rest := [.ref b0]) ⟨hx, hb, hml, hown, hts⟩ (m11_takes l D cI cL cP b0 b1 b2 z25.2 x1 (110 : Int32) (show z25.2.2.2.1 ≤ z25.2.2.1 by omega) (show z25.2.2.1 ≤ 100 by omega) H.size) (cwV 1 hts gX11_takesEntry_X11_takes rfl rfl rfl (by decide +kernel) ⟨Nat.le_of_ble_eq_true rfl, Nat.le_of_ble_eq_true rfl⟩) (preM_V (q := (RX11, TX11, 10)) (q0 := 0) hQ hPc hDc rfl rfl) rfl rfl hl.1 rfl (lv_room (Nat.le_of_ble_eq_true rfl)) dX11_takesEntry_86 ⟨Nat.le_of_ble_eq_true rfl, Nat.le_of_ble_eq_true rfl⟩) hS hA hP hD [0, 1] [] [0, 1] rfl rfl rfl rfl rfl (fun _ => rfl) (fun z27 H locs hz27 hP hD hS => ?_)
              have hP : va_P D vwCl (wF [gN b0 b1 b2 z27.2, gI cI b2 100 x1]) H := hP
              have hD : va_D A (wF [gN b0 b1 b2 z27.2, gI cI b2 100 x1]) := hD
              have htk_z27 : tOk z25.2 z27.2 := by rw [hz27]; exact takes_ok (show z25.2.2.2.1 ≤ z25.2.2.1 by omega) (by decide)
              have hta_z27 : z27.2.2.2.1 ≤ z27.2.2.1 := htk_z27.2.2.2
              have htl_z27 : z27.2.2.1 = z25.2.2.1 := htk_z27.2.1
              have htm_z27 : z25.2.2.2.1 ≤ z27.2.2.2.1 := htk_z27.2.2.1
              refine lv_if_eq (tgt := 96) hx hb dX11_takesEntry_89 (by decide) (fun c28 => ?_) (fun c28 => ?_)
              · have c28 : ¬ (z27.1 = true) := bI_0.mp c28
                refine lv_aload_n hx hb dX11_takesEntry_96 rfl (lv_at hl 0 rfl) ?_
                refine lv_bipush (v := (112 : Int32)) hx hb dX11_takesEntry_97 (by decide) ?_
                have hPc : va_P D vwCl (wF [gN b0 b1 b2 z27.2, gI cI b2 100 x1]) H := w_psub hP [0, 1] rfl
                have hDc : va_D A (wF [gN b0 b1 b2 z27.2, gI cI b2 100 x1]) := w_gsub hD [0, 1] rfl rfl
                refine c_Mz (F := F11_takes z27.2 x1 (112 : Int32)) (G1 := (fun w => [gN b0 b1 b2 w, gI cI b2 100 x1])) (Gr := []) (Gs' := fun z29 => [gN b0 b1 b2 z29.2, gI cI b2 100 x1]) (va_runV (As := [.int (112 : Int32)]) (rest := [.ref b0]) ⟨hx, hb, hml, hown, hts⟩ (m11_takes l D cI cL cP b0 b1 b2 z27.2 x1 (112 : Int32) (show z27.2.2.2.1 ≤ z27.2.2.1 by omega) (show z27.2.2.1 ≤ 100 by omega) H.size) (cwV 1 hts gX11_takesEntry_X11_takes rfl rfl rfl (by decide +kernel) ⟨Nat.le_of_ble_eq_true rfl, Nat.le_of_ble_eq_true rfl⟩) (preM_V (q := (RX11, TX11, 10)) (q0 := 0) hQ hPc hDc rfl rfl) rfl rfl hl.1 rfl (lv_room (Nat.le_of_ble_eq_true rfl)) dX11_takesEntry_99 ⟨Nat.le_of_ble_eq_true rfl, Nat.le_of_ble_eq_true rfl⟩) hS hA hP hD [0, 1] [] [0, 1] rfl rfl rfl rfl rfl (fun _ => rfl) (fun z29 H locs hz29 hP hD hS => ?_)
                have hP : va_P D vwCl (wF [gN b0 b1 b2 z29.2, gI cI b2 100 x1]) H := hP
                have hD : va_D A (wF [gN b0 b1 b2 z29.2, gI cI b2 100 x1]) := hD
                have htk_z29 : tOk z27.2 z29.2 := by rw [hz29]; exact takes_ok (show z27.2.2.2.1 ≤ z27.2.2.1 by omega) (by decide)
                have hta_z29 : z29.2.2.2.1 ≤ z29.2.2.1 := htk_z29.2.2.2
                have htl_z29 : z29.2.2.1 = z27.2.2.1 := htk_z29.2.1
                have htm_z29 : z27.2.2.2.1 ≤ z29.2.2.2.1 := htk_z29.2.2.1
                refine lv_if_eq (tgt := 109) hx hb dX11_takesEntry_102 (by decide) (fun c30 => ?_) (fun c30 => ?_)
                · have c30 : ¬ (z29.1 = true) := bI_0.mp c30
                  refine lv_iconst (v := (-1 : Int32)) hx hb dX11_takesEntry_109 (by decide) ?_
                  refine va_put (D := D) (ci := 11) (v := .int (-1 : Int32)) (ty := .int) (C := RX11) (T := TX11) (N := 10) hx hb hts hinX11 tyX11 tyX11_ok nmX11 hown hQ.1 hP hD hS 0 rfl rfl 9 (by decide) (hts (.fieldLink RX11 236 "HeatPumpPlantModel" "tariff" "I") (List.mem_of_getElem? (i := 4) rfl)) (fun _ h9 => h9) rfl (by decide +kernel) rfl rfl (Nat.le_of_ble_eq_true rfl) dX11_takesEntry_110 (fun H locs hP hD hS => ?_)
                  have hP : va_P D vwCl (wF [gN b0 b1 b2 (z29.2.1, z29.2.2.1, z29.2.2.2.1, z29.2.2.2.2.1, z29.2.2.2.2.2.1, z29.2.2.2.2.2.2.1, z29.2.2.2.2.2.2.2.1, (-1 : Int32)), gI cI b2 100 x1]) H := hP
                  have hD : va_D A (wF [gN b0 b1 b2 (z29.2.1, z29.2.2.1, z29.2.2.2.1, z29.2.2.2.2.1, z29.2.2.2.2.2.1, z29.2.2.2.2.2.2.1, z29.2.2.2.2.2.2.2.1, (-1 : Int32)), gI cI b2 100 x1]) := hD
                  refine lv_aload_n hx hb dX11_takesEntry_113 rfl (lv_at hl 0 rfl) ?_
                  refine lv_bipush (v := (59 : Int32)) hx hb dX11_takesEntry_114 (by decide) ?_
                  have hPc : va_P D vwCl (wF [gN b0 b1 b2 (z29.2.1, z29.2.2.1, z29.2.2.2.1, z29.2.2.2.2.1, z29.2.2.2.2.2.1, z29.2.2.2.2.2.2.1, z29.2.2.2.2.2.2.2.1, (-1 : Int32)), gI cI b2 100 x1]) H := w_psub hP [0, 1] rfl
                  have hDc : va_D A (wF [gN b0 b1 b2 (z29.2.1, z29.2.2.1, z29.2.2.2.1, z29.2.2.2.2.1, z29.2.2.2.2.2.1, z29.2.2.2.2.2.2.1, z29.2.2.2.2.2.2.2.1, (-1 : Int32)), gI cI b2 100 x1]) := w_gsub hD [0, 1] rfl rfl
                  refine c_Mz (F := F11_takes (z29.2.1, z29.2.2.1, z29.2.2.2.1, z29.2.2.2.2.1, z29.2.2.2.2.2.1, z29.2.2.2.2.2.2.1, z29.2.2.2.2.2.2.2.1, (-1 : Int32)) x1 (59 : Int32)) (G1 := (fun w => [gN b0 b1 b2 w, gI cI b2 100 x1])) (Gr := []) (Gs' := fun z31 => [gN b0 b1 b2 z31.2, gI cI b2 100 x1]) (va_runV (As := [.int (59 : Int32)]) (rest := []) ⟨hx, hb, hml, hown, hts⟩ (m11_takes l D cI cL cP b0 b1 b2 (z29.2.1, z29.2.2.1, z29.2.2.2.1, z29.2.2.2.2.1, z29.2.2.2.2.2.1, z29.2.2.2.2.2.2.1, z29.2.2.2.2.2.2.2.1, (-1 : Int32)) x1 (59 : Int32) (show z29.2.2.2.1 ≤ z29.2.2.1 by omega) (show z29.2.2.1 ≤ 100 by omega) H.size) (cwV 1 hts gX11_takesEntry_X11_takes rfl rfl rfl (by decide +kernel) ⟨Nat.le_of_ble_eq_true rfl, Nat.le_of_ble_eq_true rfl⟩) (preM_V (q := (RX11, TX11, 10)) (q0 := 0) hQ hPc hDc rfl rfl) rfl rfl hl.1 rfl (lv_room (Nat.le_of_ble_eq_true rfl)) dX11_takesEntry_116 ⟨Nat.le_of_ble_eq_true rfl, Nat.le_of_ble_eq_true rfl⟩) hS hA hP hD [0, 1] [] [0, 1] rfl rfl rfl rfl rfl (fun _ => rfl) (fun z31 H locs hz31 hP hD hS => ?_)
                  have hP : va_P D vwCl (wF [gN b0 b1 b2 z31.2, gI cI b2 100 x1]) H := hP
                  have hD : va_D A (wF [gN b0 b1 b2 z31.2, gI cI b2 100 x1]) := hD
                  have htk_z31 : tOk (z29.2.1, z29.2.2.1, z29.2.2.2.1, z29.2.2.2.2.1, z29.2.2.2.2.2.1, z29.2.2.2.2.2.2.1, z29.2.2.2.2.2.2.2.1, (-1 : Int32)) z31.2 := by rw [hz31]; exact takes_ok (show z29.2.2.2.1 ≤ z29.2.2.1 by omega) (by decide)
                  have hta_z31 : z31.2.2.2.1 ≤ z31.2.2.1 := htk_z31.2.2.2
                  have htl_z31 : z31.2.2.1 = z29.2.2.1 := htk_z31.2.1
                  have htm_z31 : z29.2.2.2.1 ≤ z31.2.2.2.1 := htk_z31.2.2.1
                  exact W.zret (v := (bI z31.1)) (ty := .boolean) hx hb hr (bI_n _) (fun t ht hW => ⟨⟨(bI z31.1), z31.2, rfl, ((congrArg (fun q : Bool × MoN => (bI q.1, q.2)) (show F11_takesEntry x0 x1 = (z31.1, z31.2) from Eq.trans (congrArg (K11_takesEntry_1 x0 x1) hz1.symm) (Eq.trans (if_pos c2) (Eq.trans (congrArg (K11_takesEntry_2 x0 x1 z1) hz3.symm) (Eq.trans (if_pos c4) (Eq.trans (congrArg (K11_takesEntry_12 x0 x1 z1 z3) hz19.symm) (Eq.trans (if_pos c20) (Eq.trans (congrArg (K11_takesEntry_13 x0 x1 z1 z3 z19) hz21.symm) (Eq.trans (if_pos c22) (Eq.trans (congrArg (K11_takesEntry_14 x0 x1 z1 z3 z19 z21) hz23.symm) (Eq.trans (if_pos c24) (Eq.trans (congrArg (K11_takesEntry_15 x0 x1 z1 z3 z19 z21 z23) hz25.symm) (Eq.trans (if_neg c26) (Eq.trans (congrArg (K11_takesEntry_16 x0 x1 z1 z3 z19 z21 z23 z25) hz27.symm) (Eq.trans (if_neg c28) (Eq.trans (congrArg (K11_takesEntry_17 x0 x1 z1 z3 z19 z21 z23 z25 z27) hz29.symm) (Eq.trans (if_neg c30) (Eq.trans (congrArg (K11_takesEntry_18 x0 x1 z1 z3 z19 z21 z23 z25 z27 z29) hz31.symm) (rfl))))))))))))))))))).symm), by rw [ht]; exact hP, hD⟩, hS.F ht⟩) hS.2.2 dX11_takesEntry_119
                · have c30 : z29.1 = true := bI_1.mp c30
                  refine lv_iconst (v := (2 : Int32)) hx hb dX11_takesEntry_105 (by decide) ?_
                  refine lv_goto (tgt := 110) hx hb dX11_takesEntry_106 (by decide) ?_
                  refine va_put (D := D) (ci := 11) (v := .int (2 : Int32)) (ty := .int) (C := RX11) (T := TX11) (N := 10) hx hb hts hinX11 tyX11 tyX11_ok nmX11 hown hQ.1 hP hD hS 0 rfl rfl 9 (by decide) (hts (.fieldLink RX11 236 "HeatPumpPlantModel" "tariff" "I") (List.mem_of_getElem? (i := 4) rfl)) (fun _ h9 => h9) rfl (by decide +kernel) rfl rfl (Nat.le_of_ble_eq_true rfl) dX11_takesEntry_110 (fun H locs hP hD hS => ?_)
                  have hP : va_P D vwCl (wF [gN b0 b1 b2 (z29.2.1, z29.2.2.1, z29.2.2.2.1, z29.2.2.2.2.1, z29.2.2.2.2.2.1, z29.2.2.2.2.2.2.1, z29.2.2.2.2.2.2.2.1, (2 : Int32)), gI cI b2 100 x1]) H := hP
                  have hD : va_D A (wF [gN b0 b1 b2 (z29.2.1, z29.2.2.1, z29.2.2.2.1, z29.2.2.2.2.1, z29.2.2.2.2.2.1, z29.2.2.2.2.2.2.1, z29.2.2.2.2.2.2.2.1, (2 : Int32)), gI cI b2 100 x1]) := hD
                  refine lv_aload_n hx hb dX11_takesEntry_113 rfl (lv_at hl 0 rfl) ?_
                  refine lv_bipush (v := (59 : Int32)) hx hb dX11_takesEntry_114 (by decide) ?_
                  have hPc : va_P D vwCl (wF [gN b0 b1 b2 (z29.2.1, z29.2.2.1, z29.2.2.2.1, z29.2.2.2.2.1, z29.2.2.2.2.2.1, z29.2.2.2.2.2.2.1, z29.2.2.2.2.2.2.2.1, (2 : Int32)), gI cI b2 100 x1]) H := w_psub hP [0, 1] rfl
                  have hDc : va_D A (wF [gN b0 b1 b2 (z29.2.1, z29.2.2.1, z29.2.2.2.1, z29.2.2.2.2.1, z29.2.2.2.2.2.1, z29.2.2.2.2.2.2.1, z29.2.2.2.2.2.2.2.1, (2 : Int32)), gI cI b2 100 x1]) := w_gsub hD [0, 1] rfl rfl
                  refine c_Mz (F := F11_takes (z29.2.1, z29.2.2.1, z29.2.2.2.1, z29.2.2.2.2.1, z29.2.2.2.2.2.1, z29.2.2.2.2.2.2.1, z29.2.2.2.2.2.2.2.1, (2 : Int32)) x1 (59 : Int32)) (G1 := (fun w => [gN b0 b1 b2 w, gI cI b2 100 x1])) (Gr := []) (Gs' := fun z32 => [gN b0 b1 b2 z32.2, gI cI b2 100 x1]) (va_runV (As := [.int (59 : Int32)]) (rest := []) ⟨hx, hb, hml, hown, hts⟩ (m11_takes l D cI cL cP b0 b1 b2 (z29.2.1, z29.2.2.1, z29.2.2.2.1, z29.2.2.2.2.1, z29.2.2.2.2.2.1, z29.2.2.2.2.2.2.1, z29.2.2.2.2.2.2.2.1, (2 : Int32)) x1 (59 : Int32) (show z29.2.2.2.1 ≤ z29.2.2.1 by omega) (show z29.2.2.1 ≤ 100 by omega) H.size) (cwV 1 hts gX11_takesEntry_X11_takes rfl rfl rfl (by decide +kernel) ⟨Nat.le_of_ble_eq_true rfl, Nat.le_of_ble_eq_true rfl⟩) (preM_V (q := (RX11, TX11, 10)) (q0 := 0) hQ hPc hDc rfl rfl) rfl rfl hl.1 rfl (lv_room (Nat.le_of_ble_eq_true rfl)) dX11_takesEntry_116 ⟨Nat.le_of_ble_eq_true rfl, Nat.le_of_ble_eq_true rfl⟩) hS hA hP hD [0, 1] [] [0, 1] rfl rfl rfl rfl rfl (fun _ => rfl) (fun z32 H locs hz32 hP hD hS => ?_)
                  have hP : va_P D vwCl (wF [gN b0 b1 b2 z32.2, gI cI b2 100 x1]) H := hP
                  have hD : va_D A (wF [gN b0 b1 b2 z32.2, gI cI b2 100 x1]) := hD
                  have htk_z32 : tOk (z29.2.1, z29.2.2.1, z29.2.2.2.1, z29.2.2.2.2.1, z29.2.2.2.2.2.1, z29.2.2.2.2.2.2.1, z29.2.2.2.2.2.2.2.1, (2 : Int32)) z32.2 := by rw [hz32]; exact takes_ok (show z29.2.2.2.1 ≤ z29.2.2.1 by omega) (by decide)
                  have hta_z32 : z32.2.2.2.1 ≤ z32.2.2.1 := htk_z32.2.2.2
                  have htl_z32 : z32.2.2.1 = z29.2.2.1 := htk_z32.2.1
                  have htm_z32 : z29.2.2.2.1 ≤ z32.2.2.2.1 := htk_z32.2.2.1
                  exact W.zret (v := (bI z32.1)) (ty := .boolean) hx hb hr (bI_n _) (fun t ht hW => ⟨⟨(bI z32.1), z32.2, rfl, ((congrArg (fun q : Bool × MoN => (bI q.1, q.2)) (show F11_takesEntry x0 x1 = (z32.1, z32.2) from Eq.trans (congrArg (K11_takesEntry_1 x0 x1) hz1.symm) (Eq.trans (if_pos c2) (Eq.trans (congrArg (K11_takesEntry_2 x0 x1 z1) hz3.symm) (Eq.trans (if_pos c4) (Eq.trans (congrArg (K11_takesEntry_12 x0 x1 z1 z3) hz19.symm) (Eq.trans (if_pos c20) (Eq.trans (congrArg (K11_takesEntry_13 x0 x1 z1 z3 z19) hz21.symm) (Eq.trans (if_pos c22) (Eq.trans (congrArg (K11_takesEntry_14 x0 x1 z1 z3 z19 z21) hz23.symm) (Eq.trans (if_pos c24) (Eq.trans (congrArg (K11_takesEntry_15 x0 x1 z1 z3 z19 z21 z23) hz25.symm) (Eq.trans (if_neg c26) (Eq.trans (congrArg (K11_takesEntry_16 x0 x1 z1 z3 z19 z21 z23 z25) hz27.symm) (Eq.trans (if_neg c28) (Eq.trans (congrArg (K11_takesEntry_17 x0 x1 z1 z3 z19 z21 z23 z25 z27) hz29.symm) (Eq.trans (if_pos c30) (Eq.trans (congrArg (K11_takesEntry_19 x0 x1 z1 z3 z19 z21 z23 z25 z27 z29) hz32.symm) (rfl))))))))))))))))))).symm), by rw [ht]; exact hP, hD⟩, hS.F ht⟩) hS.2.2 dX11_takesEntry_119
              · have c28 : z27.1 = true := bI_1.mp c28
                refine lv_iconst (v := (1 : Int32)) hx hb dX11_takesEntry_92 (by decide) ?_
                refine lv_goto (tgt := 110) hx hb dX11_takesEntry_93 (by decide) ?_
                refine va_put (D := D) (ci := 11) (v := .int (1 : Int32)) (ty := .int) (C := RX11) (T := TX11) (N := 10) hx hb hts hinX11 tyX11 tyX11_ok nmX11 hown hQ.1 hP hD hS 0 rfl rfl 9 (by decide) (hts (.fieldLink RX11 236 "HeatPumpPlantModel" "tariff" "I") (List.mem_of_getElem? (i := 4) rfl)) (fun _ h9 => h9) rfl (by decide +kernel) rfl rfl (Nat.le_of_ble_eq_true rfl) dX11_takesEntry_110 (fun H locs hP hD hS => ?_)
                have hP : va_P D vwCl (wF [gN b0 b1 b2 (z27.2.1, z27.2.2.1, z27.2.2.2.1, z27.2.2.2.2.1, z27.2.2.2.2.2.1, z27.2.2.2.2.2.2.1, z27.2.2.2.2.2.2.2.1, (1 : Int32)), gI cI b2 100 x1]) H := hP
                have hD : va_D A (wF [gN b0 b1 b2 (z27.2.1, z27.2.2.1, z27.2.2.2.1, z27.2.2.2.2.1, z27.2.2.2.2.2.1, z27.2.2.2.2.2.2.1, z27.2.2.2.2.2.2.2.1, (1 : Int32)), gI cI b2 100 x1]) := hD
                refine lv_aload_n hx hb dX11_takesEntry_113 rfl (lv_at hl 0 rfl) ?_
                refine lv_bipush (v := (59 : Int32)) hx hb dX11_takesEntry_114 (by decide) ?_
                have hPc : va_P D vwCl (wF [gN b0 b1 b2 (z27.2.1, z27.2.2.1, z27.2.2.2.1, z27.2.2.2.2.1, z27.2.2.2.2.2.1, z27.2.2.2.2.2.2.1, z27.2.2.2.2.2.2.2.1, (1 : Int32)), gI cI b2 100 x1]) H := w_psub hP [0, 1] rfl
                have hDc : va_D A (wF [gN b0 b1 b2 (z27.2.1, z27.2.2.1, z27.2.2.2.1, z27.2.2.2.2.1, z27.2.2.2.2.2.1, z27.2.2.2.2.2.2.1, z27.2.2.2.2.2.2.2.1, (1 : Int32)), gI cI b2 100 x1]) := w_gsub hD [0, 1] rfl rfl
                refine c_Mz (F := F11_takes (z27.2.1, z27.2.2.1, z27.2.2.2.1, z27.2.2.2.2.1, z27.2.2.2.2.2.1, z27.2.2.2.2.2.2.1, z27.2.2.2.2.2.2.2.1, (1 : Int32)) x1 (59 : Int32)) (G1 := (fun w => [gN b0 b1 b2 w, gI cI b2 100 x1])) (Gr := []) (Gs' := fun z33 => [gN b0 b1 b2 z33.2, gI cI b2 100 x1]) (va_runV (As := [.int (59 : Int32)]) (rest := []) ⟨hx, hb, hml, hown, hts⟩ (m11_takes l D cI cL cP b0 b1 b2 (z27.2.1, z27.2.2.1, z27.2.2.2.1, z27.2.2.2.2.1, z27.2.2.2.2.2.1, z27.2.2.2.2.2.2.1, z27.2.2.2.2.2.2.2.1, (1 : Int32)) x1 (59 : Int32) (show z27.2.2.2.1 ≤ z27.2.2.1 by omega) (show z27.2.2.1 ≤ 100 by omega) H.size) (cwV 1 hts gX11_takesEntry_X11_takes rfl rfl rfl (by decide +kernel) ⟨Nat.le_of_ble_eq_true rfl, Nat.le_of_ble_eq_true rfl⟩) (preM_V (q := (RX11, TX11, 10)) (q0 := 0) hQ hPc hDc rfl rfl) rfl rfl hl.1 rfl (lv_room (Nat.le_of_ble_eq_true rfl)) dX11_takesEntry_116 ⟨Nat.le_of_ble_eq_true rfl, Nat.le_of_ble_eq_true rfl⟩) hS hA hP hD [0, 1] [] [0, 1] rfl rfl rfl rfl rfl (fun _ => rfl) (fun z33 H locs hz33 hP hD hS => ?_)
                have hP : va_P D vwCl (wF [gN b0 b1 b2 z33.2, gI cI b2 100 x1]) H := hP
                have hD : va_D A (wF [gN b0 b1 b2 z33.2, gI cI b2 100 x1]) := hD
                have htk_z33 : tOk (z27.2.1, z27.2.2.1, z27.2.2.2.1, z27.2.2.2.2.1, z27.2.2.2.2.2.1, z27.2.2.2.2.2.2.1, z27.2.2.2.2.2.2.2.1, (1 : Int32)) z33.2 := by rw [hz33]; exact takes_ok (show z27.2.2.2.1 ≤ z27.2.2.1 by omega) (by decide)
                have hta_z33 : z33.2.2.2.1 ≤ z33.2.2.1 := htk_z33.2.2.2
                have htl_z33 : z33.2.2.1 = z27.2.2.1 := htk_z33.2.1
                have htm_z33 : z27.2.2.2.1 ≤ z33.2.2.2.1 := htk_z33.2.2.1
                exact W.zret (v := (bI z33.1)) (ty := .boolean) hx hb hr (bI_n _) (fun t ht hW => ⟨⟨(bI z33.1), z33.2, rfl, ((congrArg (fun q : Bool × MoN => (bI q.1, q.2)) (show F11_takesEntry x0 x1 = (z33.1, z33.2) from Eq.trans (congrArg (K11_takesEntry_1 x0 x1) hz1.symm) (Eq.trans (if_pos c2) (Eq.trans (congrArg (K11_takesEntry_2 x0 x1 z1) hz3.symm) (Eq.trans (if_pos c4) (Eq.trans (congrArg (K11_takesEntry_12 x0 x1 z1 z3) hz19.symm) (Eq.trans (if_pos c20) (Eq.trans (congrArg (K11_takesEntry_13 x0 x1 z1 z3 z19) hz21.symm) (Eq.trans (if_pos c22) (Eq.trans (congrArg (K11_takesEntry_14 x0 x1 z1 z3 z19 z21) hz23.symm) (Eq.trans (if_pos c24) (Eq.trans (congrArg (K11_takesEntry_15 x0 x1 z1 z3 z19 z21 z23) hz25.symm) (Eq.trans (if_neg c26) (Eq.trans (congrArg (K11_takesEntry_16 x0 x1 z1 z3 z19 z21 z23 z25) hz27.symm) (Eq.trans (if_pos c28) (Eq.trans (congrArg (K11_takesEntry_20 x0 x1 z1 z3 z19 z21 z23 z25 z27) hz33.symm) (rfl))))))))))))))))).symm), by rw [ht]; exact hP, hD⟩, hS.F ht⟩) hS.2.2 dX11_takesEntry_119
            · have c26 : z25.1 = true := bI_1.mp c26
              refine lv_iconst (v := (0 : Int32)) hx hb dX11_takesEntry_79 (by decide) ?_
              refine lv_goto (tgt := 110) hx hb dX11_takesEntry_80 (by decide) ?_
              refine va_put (D := D) (ci := 11) (v := .int (0 : Int32)) (ty := .int) (C := RX11) (T := TX11) (N := 10) hx hb hts hinX11 tyX11 tyX11_ok nmX11 hown hQ.1 hP hD hS 0 rfl rfl 9 (by decide) (hts (.fieldLink RX11 236 "HeatPumpPlantModel" "tariff" "I") (List.mem_of_getElem? (i := 4) rfl)) (fun _ h9 => h9) rfl (by decide +kernel) rfl rfl (Nat.le_of_ble_eq_true rfl) dX11_takesEntry_110 (fun H locs hP hD hS => ?_)
              have hP : va_P D vwCl (wF [gN b0 b1 b2 (z25.2.1, z25.2.2.1, z25.2.2.2.1, z25.2.2.2.2.1, z25.2.2.2.2.2.1, z25.2.2.2.2.2.2.1, z25.2.2.2.2.2.2.2.1, (0 : Int32)), gI cI b2 100 x1]) H := hP
              have hD : va_D A (wF [gN b0 b1 b2 (z25.2.1, z25.2.2.1, z25.2.2.2.1, z25.2.2.2.2.1, z25.2.2.2.2.2.1, z25.2.2.2.2.2.2.1, z25.2.2.2.2.2.2.2.1, (0 : Int32)), gI cI b2 100 x1]) := hD
              refine lv_aload_n hx hb dX11_takesEntry_113 rfl (lv_at hl 0 rfl) ?_
              refine lv_bipush (v := (59 : Int32)) hx hb dX11_takesEntry_114 (by decide) ?_
              have hPc : va_P D vwCl (wF [gN b0 b1 b2 (z25.2.1, z25.2.2.1, z25.2.2.2.1, z25.2.2.2.2.1, z25.2.2.2.2.2.1, z25.2.2.2.2.2.2.1, z25.2.2.2.2.2.2.2.1, (0 : Int32)), gI cI b2 100 x1]) H := w_psub hP [0, 1] rfl
              have hDc : va_D A (wF [gN b0 b1 b2 (z25.2.1, z25.2.2.1, z25.2.2.2.1, z25.2.2.2.2.1, z25.2.2.2.2.2.1, z25.2.2.2.2.2.2.1, z25.2.2.2.2.2.2.2.1, (0 : Int32)), gI cI b2 100 x1]) := w_gsub hD [0, 1] rfl rfl
              refine c_Mz (F := F11_takes (z25.2.1, z25.2.2.1, z25.2.2.2.1, z25.2.2.2.2.1, z25.2.2.2.2.2.1, z25.2.2.2.2.2.2.1, z25.2.2.2.2.2.2.2.1, (0 : Int32)) x1 (59 : Int32)) (G1 := (fun w => [gN b0 b1 b2 w, gI cI b2 100 x1])) (Gr := []) (Gs' := fun z34 => [gN b0 b1 b2 z34.2, gI cI b2 100 x1]) (va_runV (As := [.int (59 : Int32)]) (rest := []) ⟨hx, hb, hml, hown, hts⟩ (m11_takes l D cI cL cP b0 b1 b2 (z25.2.1, z25.2.2.1, z25.2.2.2.1, z25.2.2.2.2.1, z25.2.2.2.2.2.1, z25.2.2.2.2.2.2.1, z25.2.2.2.2.2.2.2.1, (0 : Int32)) x1 (59 : Int32) (show z25.2.2.2.1 ≤ z25.2.2.1 by omega) (show z25.2.2.1 ≤ 100 by omega) H.size) (cwV 1 hts gX11_takesEntry_X11_takes rfl rfl rfl (by decide +kernel) ⟨Nat.le_of_ble_eq_true rfl, Nat.le_of_ble_eq_true rfl⟩) (preM_V (q := (RX11, TX11, 10)) (q0 := 0) hQ hPc hDc rfl rfl) rfl rfl hl.1 rfl (lv_room (Nat.le_of_ble_eq_true rfl)) dX11_takesEntry_116 ⟨Nat.le_of_ble_eq_true rfl, Nat.le_of_ble_eq_true rfl⟩) hS hA hP hD [0, 1] [] [0, 1] rfl rfl rfl rfl rfl (fun _ => rfl) (fun z34 H locs hz34 hP hD hS => ?_)
              have hP : va_P D vwCl (wF [gN b0 b1 b2 z34.2, gI cI b2 100 x1]) H := hP
              have hD : va_D A (wF [gN b0 b1 b2 z34.2, gI cI b2 100 x1]) := hD
              have htk_z34 : tOk (z25.2.1, z25.2.2.1, z25.2.2.2.1, z25.2.2.2.2.1, z25.2.2.2.2.2.1, z25.2.2.2.2.2.2.1, z25.2.2.2.2.2.2.2.1, (0 : Int32)) z34.2 := by rw [hz34]; exact takes_ok (show z25.2.2.2.1 ≤ z25.2.2.1 by omega) (by decide)
              have hta_z34 : z34.2.2.2.1 ≤ z34.2.2.1 := htk_z34.2.2.2
              have htl_z34 : z34.2.2.1 = z25.2.2.1 := htk_z34.2.1
              have htm_z34 : z25.2.2.2.1 ≤ z34.2.2.2.1 := htk_z34.2.2.1
              exact W.zret (v := (bI z34.1)) (ty := .boolean) hx hb hr (bI_n _) (fun t ht hW => ⟨⟨(bI z34.1), z34.2, rfl, ((congrArg (fun q : Bool × MoN => (bI q.1, q.2)) (show F11_takesEntry x0 x1 = (z34.1, z34.2) from Eq.trans (congrArg (K11_takesEntry_1 x0 x1) hz1.symm) (Eq.trans (if_pos c2) (Eq.trans (congrArg (K11_takesEntry_2 x0 x1 z1) hz3.symm) (Eq.trans (if_pos c4) (Eq.trans (congrArg (K11_takesEntry_12 x0 x1 z1 z3) hz19.symm) (Eq.trans (if_pos c20) (Eq.trans (congrArg (K11_takesEntry_13 x0 x1 z1 z3 z19) hz21.symm) (Eq.trans (if_pos c22) (Eq.trans (congrArg (K11_takesEntry_14 x0 x1 z1 z3 z19 z21) hz23.symm) (Eq.trans (if_pos c24) (Eq.trans (congrArg (K11_takesEntry_15 x0 x1 z1 z3 z19 z21 z23) hz25.symm) (Eq.trans (if_pos c26) (Eq.trans (congrArg (K11_takesEntry_21 x0 x1 z1 z3 z19 z21 z23 z25) hz34.symm) (rfl))))))))))))))).symm), by rw [ht]; exact hP, hD⟩, hS.F ht⟩) hS.2.2 dX11_takesEntry_119
          · have c24 : ¬ (z23.1 = true) := bI_0.mp c24
            refine lv_iconst (v := (0 : Int32)) hx hb dX11_takesEntry_67 (by decide) ?_
            exact W.zret (v := (0 : Int32)) (ty := .boolean) hx hb hr rfl (fun t ht hW => ⟨⟨(0 : Int32), z23.2, rfl, ((congrArg (fun q : Bool × MoN => (bI q.1, q.2)) (show F11_takesEntry x0 x1 = (false, z23.2) from Eq.trans (congrArg (K11_takesEntry_1 x0 x1) hz1.symm) (Eq.trans (if_pos c2) (Eq.trans (congrArg (K11_takesEntry_2 x0 x1 z1) hz3.symm) (Eq.trans (if_pos c4) (Eq.trans (congrArg (K11_takesEntry_12 x0 x1 z1 z3) hz19.symm) (Eq.trans (if_pos c20) (Eq.trans (congrArg (K11_takesEntry_13 x0 x1 z1 z3 z19) hz21.symm) (Eq.trans (if_pos c22) (Eq.trans (congrArg (K11_takesEntry_14 x0 x1 z1 z3 z19 z21) hz23.symm) (Eq.trans (if_neg c24) (rfl)))))))))))).symm), by rw [ht]; exact hP, hD⟩, hS.F ht⟩) hS.2.2 dX11_takesEntry_68
      · have c20 : ¬ (z19.1 = true) := bI_0.mp c20
        refine lv_iconst (v := (0 : Int32)) hx hb dX11_takesEntry_41 (by decide) ?_
        exact W.zret (v := (0 : Int32)) (ty := .boolean) hx hb hr rfl (fun t ht hW => ⟨⟨(0 : Int32), z19.2, rfl, ((congrArg (fun q : Bool × MoN => (bI q.1, q.2)) (show F11_takesEntry x0 x1 = (false, z19.2) from Eq.trans (congrArg (K11_takesEntry_1 x0 x1) hz1.symm) (Eq.trans (if_pos c2) (Eq.trans (congrArg (K11_takesEntry_2 x0 x1 z1) hz3.symm) (Eq.trans (if_pos c4) (Eq.trans (congrArg (K11_takesEntry_12 x0 x1 z1 z3) hz19.symm) (Eq.trans (if_neg c20) (rfl)))))))).symm), by rw [ht]; exact hP, hD⟩, hS.F ht⟩) hS.2.2 dX11_takesEntry_42
  · have c2 : ¬ (z1.1 = true) := bI_0.mp c2
    refine lv_iconst (v := (0 : Int32)) hx hb dX11_takesEntry_7 (by decide) ?_
    exact W.zret (v := (0 : Int32)) (ty := .boolean) hx hb hr rfl (fun t ht hW => ⟨⟨(0 : Int32), z1.2, rfl, ((congrArg (fun q : Bool × MoN => (bI q.1, q.2)) (show F11_takesEntry x0 x1 = (false, z1.2) from Eq.trans (congrArg (K11_takesEntry_1 x0 x1) hz1.symm) (Eq.trans (if_neg c2) (rfl)))).symm), by rw [ht]; exact hP, hD⟩, hS.F ht⟩) hS.2.2 dX11_takesEntry_8
