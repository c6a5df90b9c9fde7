theorem pk_lt' {g : SS} {n a : Nat} {c : Int32} (h : pk g n a = c) (hc : ¬ c = -1) : a < n := by
  unfold pk at h
  by_cases h1 : n ≤ a
  · rw [if_pos h1] at h
    exact absurd h.symm hc
  · omega
theorem pH_ok (g : SS) (n a : Nat) (h : a ≤ n) : (pH g n a).1 = true → a < (pH g n a).2.1 ∧ (pH g n a).2.1 ≤ n ∧ 0 ≤ (pH g n a).2.2.toInt ∧ (pH g n a).2.2.toInt ≤ 23 := by
  intro c
  have h1 := th_ok (x0 := (0, n, a, 0, 0, 0, 0, 0)) (x1 := g) h
  rw [th_pos (x := (0, n, a, 0, 0, 0, 0, 0)) (g := g) c] at h1
  obtain ⟨⟨-, -, -, e4⟩, e5⟩ := h1
  obtain ⟨e6, e7, e8⟩ := e5 rfl
  exact ⟨e6, e4, e7, e8⟩
theorem pZ_ok (g : SS) (n a : Nat) (h : a ≤ n) : a ≤ (pZ g n a).2.1 ∧ (pZ g n a).2.1 ≤ n := by
  have h1 := td_ok (x0 := (0, n, a, 0, 0, 0, 0, 0)) (x1 := g) h
  by_cases c : (pZ g n a).1 = true
  · obtain ⟨m, e⟩ := td_pos (x := (0, n, a, 0, 0, 0, 0, 0)) (g := g) c
    rw [e] at h1
    exact ⟨h1.1.2.2.1, h1.1.2.2.2⟩
  · rw [td_neg (x := (0, n, a, 0, 0, 0, 0, 0)) (g := g) c] at h1
    exact ⟨h1.1.2.2.1, h1.1.2.2.2⟩
theorem pLa_ok (g : SS) (n a : Nat) (h : a ≤ n) : a ≤ pLa (pk g n a) a ∧ pLa (pk g n a) a ≤ n := by
  unfold pLa
  split
  · rename_i c; have := pk_lt' c (by decide); omega
  · split
    · rename_i c; have := pk_lt' c (by decide); omega
    · split
      · rename_i c; have := pk_lt' c (by decide); omega
      · omega
theorem pSm_ok (g : SS) (n a : Nat) (h : a ≤ n) : a ≤ pSm g n a ∧ pSm g n a ≤ n := by
  unfold pSm
  split
  · rename_i c; have := pk_lt' c (by decide); omega
  · omega
theorem pLt_ok (c : Int32) : (pLt c).toInt ≤ 2 := by
  unfold pLt
  repeat' split
  all_goals decide
theorem pTl_ok (g : SS) (n a : Nat) (f t : Int32) (h : a ≤ n) : a ≤ (pTl g n a f t).2.1 ∧ (pTl g n a f t).2.1 ≤ n ∧ ((pTl g n a f t).1 = true → (pTl g n a f t).2.2.1 = f ∧ (pTl g n a f t).2.2.2.1 = t ∧ (pTl g n a f t).2.2.2.2.2.toInt ≤ 2) := by
  unfold pTl
  by_cases c1 : pk g n a = 58
  · have h1 := pk_lt' c1 (by decide)
    have h2 := pZ_ok g n (a + 1) h1
    rw [if_pos c1]
    by_cases c2 : (pZ g n (a + 1)).1 = true
    · rw [if_pos c2]
      have h3 := pLa_ok g n (pZ g n (a + 1)).2.1 h2.2
      have h4 := pSm_ok g n _ h3.2
      exact ⟨by show a ≤ pSm _ _ _; omega, h4.2, fun _ => ⟨rfl, rfl, pLt_ok _⟩⟩
    · rw [if_neg c2]
      exact ⟨by show a ≤ (pZ _ _ _).2.1; omega, h2.2, fun h => by cases h⟩
  · rw [if_neg c1]
    exact ⟨Nat.le_refl _, h, fun h => by cases h⟩
theorem pE_ok (g : SS) (n a : Nat) (h : a ≤ n) : a ≤ (pE g n a).2.1 ∧ (pE g n a).2.1 ≤ n ∧ ((pE g n a).1 = true → a < (pE g n a).2.1 ∧ (0 ≤ (pE g n a).2.2.1.toInt ∧ (pE g n a).2.2.1.toInt ≤ 23) ∧ (0 ≤ (pE g n a).2.2.2.1.toInt ∧ (pE g n a).2.2.2.1.toInt ≤ 23) ∧ (pE g n a).2.2.2.2.2.toInt ≤ 2) := by
  unfold pE
  by_cases c1 : (pH g n a).1 = true
  · rw [if_pos c1]
    obtain ⟨a1, a2, a3, a4⟩ := pH_ok g n a h c1
    by_cases c2 : pk g n (pH g n a).2.1 = 45
    · rw [if_pos c2]
      have h2 := pk_lt' c2 (by decide)
      by_cases c3 : (pH g n ((pH g n a).2.1 + 1)).1 = true
      · rw [if_pos c3]
        obtain ⟨b1, b2, b3, b4⟩ := pH_ok g n ((pH g n a).2.1 + 1) h2 c3
        obtain ⟨d1, d2, d3⟩ := pTl_ok g n (pH g n ((pH g n a).2.1 + 1)).2.1 (pH g n a).2.2 (pH g n ((pH g n a).2.1 + 1)).2.2 b2
        refine ⟨by omega, d2, fun q => ?_⟩
        obtain ⟨e1, e2, e3⟩ := d3 q
        rw [e1, e2]
        exact ⟨by omega, ⟨a3, a4⟩, ⟨b3, b4⟩, e3⟩
      · rw [if_neg c3]
        exact ⟨by show a ≤ (pH g n a).2.1 + 1; omega, h2, fun h => by cases h⟩
    · rw [if_neg c2]
      obtain ⟨d1, d2, d3⟩ := pTl_ok g n (pH g n a).2.1 (pH g n a).2.2 (pH g n a).2.2 a2
      refine ⟨by omega, d2, fun q => ?_⟩
      obtain ⟨e1, e2, e3⟩ := d3 q
      rw [e1, e2]
      exact ⟨by omega, ⟨a3, a4⟩, ⟨a3, a4⟩, e3⟩
  · rw [if_neg c1]
    exact ⟨Nat.le_refl _, h, fun h => by cases h⟩
/-- from a on only whole entries are read -/
def okW (g : SS) (n : Nat) : Nat → Nat → Prop
  | 0, a => n ≤ a
  | fu + 1, a => (pE g n a).1 = true ∧ okW g n fu (pE g n a).2.1
theorem okW_s {g : SS} {n a : Nat} (h : ∃ fu, okW g n fu a) (ha : a < n) : (pE g n a).1 = true ∧ ∃ fu, okW g n fu (pE g n a).2.1 := by
  obtain ⟨fu, h⟩ := h
  cases fu with
  | zero =>
    have h : n ≤ a := h
    omega
  | succ fu => exact ⟨h.1, fu, h.2⟩
theorem rec_n (x0 : MoN) (x1 : Nat → Int64) : (F11_records x0 x1).2.1.2 = x0.2 := by
  unfold F11_records
  split
  · rfl
  · rfl
theorem w_natT {x : Int32} {n : Nat} (h : x.toInt ≤ (n : Int)) : x.toNatClampNeg ≤ n := by
  unfold Int32.toNatClampNeg
  omega
def L11_loadWeather_117 (x0 : MoN) (x1 : (Nat → Int64)) (x2 : SS) (z3 : Int32 × MoN × (Nat → Int64)) (z5 : Bool × MoN) (cnt : Nat) (ok : Bool) (x : MoN) (y : MoN) (f : Nat → Int64) : Nat → Nat → (Nat → Int64) → Nat × (Nat → Int64)
  | 0, _, _ => default
  | fu + 1, i, r => (if (z5.2.2.2.2.2.2.1).toNatClampNeg < i then (i, r) else ((L11_loadWeather_117 x0 x1 x2 z3 z5 cnt ok x y f fu) (i + 1) (vp_updL (vp_updL r (17 + i) ((z5.2.2.2.2.2.2.2.1).toInt64)) (41 + i) (if (0 : Int32) ≤ z5.2.2.2.2.2.2.2.2 then (z5.2.2.2.2.2.2.2.2).toInt64 else (r (41 + i))))))
def K11_loadWeather_3 (x0 : MoN) (x1 : (Nat → Int64)) (x2 : SS) (cnt : Nat) (ok : Bool) (x : MoN) (y : MoN) (f : Nat → Int64) (z3 : Int32 × MoN × (Nat → Int64)) (z5 : Bool × MoN) (rec96 : MoN → (Nat → Int64) → MoN × (Nat → Int64)) (z8 : Nat × (Nat → Int64)) : MoN × (Nat → Int64) := (rec96 z5.2 z8.2)
def K11_loadWeather_2 (x0 : MoN) (x1 : (Nat → Int64)) (x2 : SS) (cnt : Nat) (ok : Bool) (x : MoN) (y : MoN) (f : Nat → Int64) (z3 : Int32 × MoN × (Nat → Int64)) (rec96 : MoN → (Nat → Int64) → MoN × (Nat → Int64)) (z5 : Bool × MoN) : MoN × (Nat → Int64) := (K11_loadWeather_3 x0 x1 x2 cnt ok x y f z3 z5 rec96 (L11_loadWeather_117 x0 x1 x2 z3 z5 cnt ok x y f 25 ((z5.2.2.2.2.2.1).toNatClampNeg) f))
def L11_loadWeather_96 (x0 : MoN) (x1 : (Nat → Int64)) (x2 : SS) (z3 : Int32 × MoN × (Nat → Int64)) (cnt : Nat) (ok : Bool) (x : MoN) : Nat → MoN → (Nat → Int64) → MoN × (Nat → Int64)
  | 0, _, _ => default
  | fu + 1, y, f => (if y.2.1 ≤ y.2.2.1 then (y, f) else (K11_loadWeather_2 x0 x1 x2 cnt ok x y f z3 (L11_loadWeather_96 x0 x1 x2 z3 cnt ok x fu) (F11_takesEntry y x2)))
def K11_loadWeather_4 (x0 : MoN) (x1 : (Nat → Int64)) (x2 : SS) (cnt : Nat) (ok : Bool) (x : MoN) (z3 : Int32 × MoN × (Nat → Int64)) (rec9 : Nat → Bool → MoN → Int32 × MoN × (Nat → Int64)) (z9 : MoN × (Nat → Int64)) : Int32 × MoN × (Nat → Int64) := ((nI cnt), (z9.1, z9.2))
def K11_loadWeather_1 (x0 : MoN) (x1 : (Nat → Int64)) (x2 : SS) (cnt : Nat) (ok : Bool) (x : MoN) (rec9 : Nat → Bool → MoN → Int32 × MoN × (Nat → Int64)) (z3 : Int32 × MoN × (Nat → Int64)) : Int32 × MoN × (Nat → Int64) := (K11_loadWeather_4 x0 x1 x2 cnt ok x z3 rec9 (L11_loadWeather_96 x0 x1 x2 z3 cnt ok x 101 (z3.2.1.1, z3.2.1.2.1, 0, z3.2.1.2.2.2.1, z3.2.1.2.2.2.2.1, z3.2.1.2.2.2.2.2.1, z3.2.1.2.2.2.2.2.2.1, z3.2.1.2.2.2.2.2.2.2) z3.2.2))
def B11_loadWeather_35 (x0 : MoN) (x1 : (Nat → Int64)) (x2 : SS) (cnt : Nat) (ok : Bool) (x : MoN) (z10 : Bool × MoN) : Bool := (if ok = true then (if (F11_in ((z10.2.2.2.2.2.2.2.1).toInt64) (-300 : Int64) (400 : Int64)) = true then (if z10.2.2.2.2.2.2.1 < z10.2.2.2.2.2.1 then false else true) else false) else false)
def K11_loadWeather_6 (x0 : MoN) (x1 : (Nat → Int64)) (x2 : SS) (cnt : Nat) (ok : Bool) (x : MoN) (z10 : Bool × MoN) (rec9 : Nat → Bool → MoN → Int32 × MoN × (Nat → Int64)) (z15 : Bool) : Int32 × MoN × (Nat → Int64) := (rec9 (cnt + 1) z15 z10.2)
def K11_loadWeather_5 (x0 : MoN) (x1 : (Nat → Int64)) (x2 : SS) (cnt : Nat) (ok : Bool) (x : MoN) (rec9 : Nat → Bool → MoN → Int32 × MoN × (Nat → Int64)) (z10 : Bool × MoN) : Int32 × MoN × (Nat → Int64) := (if z10.1 = true then (K11_loadWeather_6 x0 x1 x2 cnt ok x z10 rec9 (B11_loadWeather_35 x0 x1 x2 cnt ok x z10)) else (((-10 : Int32) - (nI z10.2.2.2.1)), (z10.2, x1)))
def L11_loadWeather_9 (x0 : MoN) (x1 : (Nat → Int64)) (x2 : SS) : Nat → Nat → Bool → MoN → Int32 × MoN × (Nat → Int64)
  | 0, _, _, _ => default
  | fu + 1, cnt, ok, x => (if x.2.1 ≤ x.2.2.1 then (if ok = true then (K11_loadWeather_1 x0 x1 x2 cnt ok x (L11_loadWeather_9 x0 x1 x2 fu) (F11_records x x1)) else ((-2 : Int32), (x, x1))) else (K11_loadWeather_5 x0 x1 x2 cnt ok x (L11_loadWeather_9 x0 x1 x2 fu) (F11_takesEntry x x2)))
def F11_loadWeather (x0 : MoN) (x1 : (Nat → Int64)) (x2 : SS) : Int32 × MoN × (Nat → Int64) := L11_loadWeather_9 x0 x1 x2 101 0 true (x0.1, x0.2.1, 0, x0.2.2.2.1, x0.2.2.2.2.1, x0.2.2.2.2.2.1, x0.2.2.2.2.2.2.1, x0.2.2.2.2.2.2.2)
set_option maxHeartbeats 4000000 in
set_option maxRecDepth 100000 in
theorem m11_loadWeather (l : Launch) (D : va_G) (cI cL cP : ClassId) (b0 : Nat) (b1 : Nat) (b2 : Nat) (x0 : MoN) (x1 : (Nat → Int64)) (x2 : SS) (hk : x0.1 ≤ 4) (hlen : x0.2.1 ≤ 100) (sz : Nat) : Met l yX11_loadWeather wsX11_loadWeather ({ frames := 4, cells := 0, slots := 0, locals := 89 }) (va_Pc [.ref b0] (pM D cI cL cP sz (wF [gN b0 b1 b2 x0, gR cL b1 x1, gI cI b2 100 x2]))) (va_Qi (fun (r : Int32) (w : MoN × (Nat → Int64)) => (r, w) = F11_loadWeather x0 x1 x2) (qW D (va_A (wF [gN b0 b1 b2 x0, gR cL b1 x1, gI cI b2 100 x2]) sz) (fun w : MoN × (Nat → Int64) => (wF [gN b0 b1 b2 w.1, gR cL b1 w.2, gI cI b2 100 x2]))) (va_A (wF [gN b0 b1 b2 x0, gR cL b1 x1, gI cI b2 100 x2]) sz)) 0 0 (va_A (wF [gN b0 b1 b2 x0, gR cL b1 x1, gI cI b2 100 x2]) sz) := by
  refine Met.ofW (cc := cX11_loadWeather) (maxL := 4) (ret := (some .int)) (by decide) rfl ?_
  intro p e s m args below meth c s₁ B hml hv
  obtain ⟨rfl, hsz, hP, hQ, hD0⟩ := hv
  have hx := B.exec
  have hb := B.bytes
  have hr := B.returns
  have hts := atoms_spec (ws := wsX11_loadWeather) B.pre
  have hown : s.vm.findClass RX11 = some m.cls := findClass_of_methodNamed B.named
  have hlocks := B.notSynchronized
  subst hsz
  have hD := hD0.self (sz := s.heap.size)
  generalize hAe : va_A (wF [gN b0 b1 b2 x0, gR cL b1 x1, gI cI b2 100 x2]) s.heap.size = A at hD ⊢
  have hA : ∀ q : Nat, s.heap.size ≤ q → A q := fun q h => by rw [← hAe]; exact Or.inr h
  have hS : va_S A s.heap s.heap [] := va_S.rf
  have hP : va_P D vwCl (wF [gN b0 b1 b2 x0, gR cL b1 x1, gI cI b2 100 x2]) s.heap := hP
  have hl := lv_entry ([.ref b0]) (n := 4) (Nat.le_of_ble_eq_true rfl)
  rw [lg_entry_eq]
  generalize (lg_sl ([.ref b0]) ++ List.replicate (4 - (lg_sl ([.ref b0])).length) Slot.unset).toArray = ls at hl ⊢
  have hl : lv_has ls 4 [(0, .ref b0)] := hl
  have hinX11 : ∀ w ∈ wsX110, w ∈ wsX11_loadWeather := fun _ h => List.mem_cons_of_mem _ (List.mem_append_right _ h)
  refine lv_aload_n hx hb dX11_loadWeather_0 rfl (lv_at hl 0 rfl) ?_
  refine lv_iconst (v := (0 : Int32)) hx hb dX11_loadWeather_1 (by decide) ?_
  refine va_put (D := D) (ci := 11) (v := .int (0 : Int32)) (ty := .int) (C := RX11) (T := TX11) (N := 10) hx hb hts hinX11 tyX11 tyX11_ok nmX11 hown hQ.1 hP hD hS 0 rfl rfl 4 (by decide) (hts (.fieldLink RX11 204 "HeatPumpPlantModel" "at" "I") (List.mem_of_getElem? (i := 1) rfl)) (fun _ h9 => h9) rfl (by decide +kernel) rfl rfl (Nat.le_of_ble_eq_true rfl) dX11_loadWeather_2 (fun H locs hP hD hS => ?_)
  rw [show (0 : Int32) = nI 0 from (rfl : (0 : Int32) = nI 0)] at hP hD
  have hP : va_P D vwCl (wF [gN b0 b1 b2 (x0.1, x0.2.1, 0, x0.2.2.2.1, x0.2.2.2.2.1, x0.2.2.2.2.2.1, x0.2.2.2.2.2.2.1, x0.2.2.2.2.2.2.2), gR cL b1 x1, gI cI b2 100 x2]) H := hP
  have hD : va_D A (wF [gN b0 b1 b2 (x0.1, x0.2.1, 0, x0.2.2.2.1, x0.2.2.2.2.1, x0.2.2.2.2.2.1, x0.2.2.2.2.2.2.1, x0.2.2.2.2.2.2.2), gR cL b1 x1, gI cI b2 100 x2]) := hD
  refine lv_iconst (v := (0 : Int32)) hx hb dX11_loadWeather_5 (by decide) ?_
  refine lv_istore_n (lv' := [(1, .int (0 : Int32)), (0, .ref b0)]) hx hb dX11_loadWeather_6 rfl hl (by decide) rfl (fun ls hl => ?_)
  refine lv_iconst (v := (1 : Int32)) hx hb dX11_loadWeather_7 (by decide) ?_
  refine lv_istore_n (lv' := [(2, .int (1 : Int32)), (1, .int (0 : Int32)), (0, .ref b0)]) hx hb dX11_loadWeather_8 rfl hl (by decide) rfl (fun ls hl => ?_)
  have loop9 : ∀ (fu : Nat) (cnt : Nat) (ok : Bool) (x : MoN) (hxk : x.1 = x0.1) (hxn : x.2.1 = x0.2.1) (hxa : x.2.2.1 ≤ x.2.1) (hxo : ∀ fu, okW x2 x0.2.1 fu x.2.2.1 → ∃ fv, okW x2 x0.2.1 fv 0) (hm : x.2.1 - x.2.2.1 < fu) (hF9 : L11_loadWeather_9 x0 x1 x2 fu cnt ok x = F11_loadWeather x0 x1 x2), ∀ (H : Heap) (locs : List Loc) (_ : va_P D vwCl (wF [gN b0 b1 b2 x, gR cL b1 x1, gI cI b2 100 x2]) H) (_ : va_D A (wF [gN b0 b1 b2 x, gR cL b1 x1, gI cI b2 100 x2])) (_ : va_S A s.heap H locs) (ls : Array Slot) (_ : lv_has ls 4 [(2, .int (bI ok)), (1, .int (nI cnt)), (0, .ref b0)]), W p l e (headSpec wsX11_loadWeather ({ frames := 4, cells := 0, slots := 0, locals := 89 })).room s m #[.ref b0] below meth c H locs 0 0 (MQ below (va_Qi (fun (r : Int32) (w : MoN × (Nat → Int64)) => (r, w) = F11_loadWeather x0 x1 x2) (qW D A (fun w : MoN × (Nat → Int64) => (wF [gN b0 b1 b2 w.1, gR cL b1 w.2, gI cI b2 100 x2]))) A) #[.ref b0] s 0 0 A) (F0 m 9 ls []) := by
    intro fu
    induction fu with
    | zero => intro cnt ok x hxk hxn hxa hxo hm; exact absurd hm (by omega)
    | succ fu ih =>
      intro cnt ok x hxk hxn hxa hxo hm hF9 H locs hP hD hS ls hl
      refine lv_aload_n hx hb dX11_loadWeather_9 rfl (lv_at hl 2 rfl) ?_
      refine va_get (D := D) (ci := 11) (v := .int (nI x.2.2.1)) (C := RX11) (T := TX11) (N := 10) hx hb hts hinX11 hown hQ.1 hP 0 rfl rfl 4 (by decide) (hts (.fieldLink RX11 204 "HeatPumpPlantModel" "at" "I") (List.mem_of_getElem? (i := 1) rfl)) (fun _ h9 => h9) rfl dX11_loadWeather_10 ?_
      refine lv_aload_n hx hb dX11_loadWeather_13 rfl (lv_at hl 2 rfl) ?_
      refine va_get (D := D) (ci := 11) (v := .int (nI x.2.1)) (C := RX11) (T := TX11) (N := 10) hx hb hts hinX11 hown hQ.1 hP 0 rfl rfl 3 (by decide) (hts (.fieldLink RX11 201 "HeatPumpPlantModel" "length" "I") (List.mem_of_getElem? (i := 2) rfl)) (fun _ h9 => h9) rfl dX11_loadWeather_14 ?_
      refine lv_icmp_ge (tgt := 79) hx hb dX11_loadWeather_17 (by decide) (fun c1 => ?_) (fun c1 => ?_)
      · have c1 : x.2.1 ≤ x.2.2.1 := (nI_leI (a := x.2.1) (b := x.2.2.1) (by omega) (by omega)).mp c1
        have hyo0 : ∃ fu, okW x2 x0.2.1 fu 0 := hxo 0 (show x0.2.1 ≤ x.2.2.1 by rw [← hxn]; exact c1)
        refine lv_iload_n hx hb dX11_loadWeather_79 rfl (lv_at hl 0 rfl) ?_
        refine lv_if_ne (tgt := 86) hx hb dX11_loadWeather_80 (by decide) (fun c2 => ?_) (fun c2 => ?_)
        · have c2 : ok = true := bI_1.mp c2
          refine lv_aload_n hx hb dX11_loadWeather_86 rfl (lv_at hl 2 rfl) ?_
          have hPc : va_P D vwCl (wF [gN b0 b1 b2 x, gR cL b1 x1]) H := w_psub hP [0, 1] rfl
          have hDc : va_D A (wF [gN b0 b1 b2 x, gR cL b1 x1]) := w_gsub hD [0, 1] rfl rfl
          refine c_Mi (F := F11_records x x1) (G1 := (fun w => [gN b0 b1 b2 w.1, gR cL b1 w.2])) (Gr := [gI cI b2 100 x2]) (Gs' := fun z3 => [gN b0 b1 b2 z3.2.1, gR cL b1 z3.2.2, gI cI b2 100 x2]) (va_runV (As := []) (rest := []) ⟨hx, hb, hml, hown, hts⟩ (m11_records l D cI cL cP b0 b2 b1 x x1 (by rw [hxk]; exact hk) H.size) (cwV 0 hts gX11_loadWeather_X11_records rfl rfl rfl (by decide +kernel) ⟨Nat.le_of_ble_eq_true rfl, Nat.le_of_ble_eq_true rfl⟩) (preM_V (q := (RX11, TX11, 10)) (q0 := 0) hQ hPc hDc rfl rfl) rfl rfl hl.1 rfl (lv_room (Nat.le_of_ble_eq_true rfl)) dX11_loadWeather_87 ⟨Nat.le_of_ble_eq_true rfl, Nat.le_of_ble_eq_true rfl⟩) hS hA hP hD [0, 1] [2] [0, 1, 2] rfl rfl rfl rfl rfl (fun _ => rfl) (fun z3 H locs hz3 hP hD hS => ?_)
          have hP : va_P D vwCl (wF [gN b0 b1 b2 z3.2.1, gR cL b1 z3.2.2, gI cI b2 100 x2]) H := hP
          have hD : va_D A (wF [gN b0 b1 b2 z3.2.1, gR cL b1 z3.2.2, gI cI b2 100 x2]) := hD
          have hzn_z3 : z3.2.1.2.1 = x0.2.1 := by rw [hz3, rec_n]; exact hxn
          refine lv_pop hx hb dX11_loadWeather_90 rfl ?_
          refine lv_aload_n hx hb dX11_loadWeather_91 rfl (lv_at hl 2 rfl) ?_
          refine lv_iconst (v := (0 : Int32)) hx hb dX11_loadWeather_92 (by decide) ?_
          refine va_put (D := D) (ci := 11) (v := .int (0 : Int32)) (ty := .int) (C := RX11) (T := TX11) (N := 10) hx hb hts hinX11 tyX11 tyX11_ok nmX11 hown hQ.1 hP hD hS 0 rfl rfl 4 (by decide) (hts (.fieldLink RX11 204 "HeatPumpPlantModel" "at" "I") (List.mem_of_getElem? (i := 1) rfl)) (fun _ h9 => h9) rfl (by decide +kernel) rfl rfl (Nat.le_of_ble_eq_true rfl) dX11_loadWeather_93 (fun H locs hP hD hS => ?_)
          rw [show (0 : Int32) = nI 0 from (rfl : (0 : Int32) = nI 0)] at hP hD
          have hP : va_P D vwCl (wF [gN b0 b1 b2 (z3.2.1.1, z3.2.1.2.1, 0, z3.2.1.2.2.2.1, z3.2.1.2.2.2.2.1, z3.2.1.2.2.2.2.2.1, z3.2.1.2.2.2.2.2.2.1, z3.2.1.2.2.2.2.2.2.2), gR cL b1 z3.2.2, gI cI b2 100 x2]) H := hP
          have hD : va_D A (wF [gN b0 b1 b2 (z3.2.1.1, z3.2.1.2.1, 0, z3.2.1.2.2.2.1, z3.2.1.2.2.2.2.1, z3.2.1.2.2.2.2.2.1, z3.2.1.2.2.2.2.2.2.1, z3.2.1.2.2.2.2.2.2.2), gR cL b1 z3.2.2, gI cI b2 100 x2]) := hD
          have loop96 : ∀ (fu : Nat) (y : MoN) (f : Nat → Int64) (hyk : y.1 = (F11_records x x1).2.1.1) (hyn : y.2.1 = x0.2.1) (hya : y.2.2.1 ≤ y.2.1) (hyo : ∃ fu, okW x2 x0.2.1 fu y.2.2.1) (hm : y.2.1 - y.2.2.1 < fu) (kk : ∀ z : MoN × (Nat → Int64), z = L11_loadWeather_96 x0 x1 x2 z3 cnt ok x fu y f → ((z.1).1 = (F11_records x x1).2.1.1) → ((z.1).2.1 = x0.2.1) → ((z.1).2.2.1 ≤ (z.1).2.1) → (∃ fu, okW x2 x0.2.1 fu (z.1).2.2.1) → ∀ (H : Heap) (locs : List Loc) (_ : va_P D vwCl (wF [gN b0 b1 b2 z.1, gR cL b1 z.2, gI cI b2 100 x2]) H) (_ : va_D A (wF [gN b0 b1 b2 z.1, gR cL b1 z.2, gI cI b2 100 x2])) (_ : va_S A s.heap H locs) (ls : Array Slot) (_ : lv_has ls 4 [(2, .int (bI ok)), (1, .int (nI cnt)), (0, .ref b0)]), W p l e (headSpec wsX11_loadWeather ({ frames := 4, cells := 0, slots := 0, locals := 89 })).room s m #[.ref b0] below meth c H locs 0 0 (MQ below (va_Qi (fun (r : Int32) (w : MoN × (Nat → Int64)) => (r, w) = F11_loadWeather x0 x1 x2) (qW D A (fun w : MoN × (Nat → Int64) => (wF [gN b0 b1 b2 w.1, gR cL b1 w.2, gI cI b2 100 x2]))) A) #[.ref b0] s 0 0 A) (F0 m 181 ls [])), ∀ (H : Heap) (locs : List Loc) (_ : va_P D vwCl (wF [gN b0 b1 b2 y, gR cL b1 f, gI cI b2 100 x2]) H) (_ : va_D A (wF [gN b0 b1 b2 y, gR cL b1 f, gI cI b2 100 x2])) (_ : va_S A s.heap H locs) (ls : Array Slot) (_ : lv_has ls 4 [(2, .int (bI ok)), (1, .int (nI cnt)), (0, .ref b0)]), W p l e (headSpec wsX11_loadWeather ({ frames := 4, cells := 0, slots := 0, locals := 89 })).room s m #[.ref b0] below meth c H locs 0 0 (MQ below (va_Qi (fun (r : Int32) (w : MoN × (Nat → Int64)) => (r, w) = F11_loadWeather x0 x1 x2) (qW D A (fun w : MoN × (Nat → Int64) => (wF [gN b0 b1 b2 w.1, gR cL b1 w.2, gI cI b2 100 x2]))) A) #[.ref b0] s 0 0 A) (F0 m 96 ls []) := by
            intro fu
            induction fu with
            | zero => intro y f hyk hyn hya hyo hm; exact absurd hm (by omega)
            | succ fu ih =>
              intro y f hyk hyn hya hyo hm kk H locs hP hD hS ls hl
              refine lv_aload_n hx hb dX11_loadWeather_96 rfl (lv_at hl 2 rfl) ?_
              refine va_get (D := D) (ci := 11) (v := .int (nI y.2.2.1)) (C := RX11) (T := TX11) (N := 10) hx hb hts hinX11 hown hQ.1 hP 0 rfl rfl 4 (by decide) (hts (.fieldLink RX11 204 "HeatPumpPlantModel" "at" "I") (List.mem_of_getElem? (i := 1) rfl)) (fun _ h9 => h9) rfl dX11_loadWeather_97 ?_
              refine lv_aload_n hx hb dX11_loadWeather_100 rfl (lv_at hl 2 rfl) ?_
              refine va_get (D := D) (ci := 11) (v := .int (nI y.2.1)) (C := RX11) (T := TX11) (N := 10) hx hb hts hinX11 hown hQ.1 hP 0 rfl rfl 3 (by decide) (hts (.fieldLink RX11 201 "HeatPumpPlantModel" "length" "I") (List.mem_of_getElem? (i := 2) rfl)) (fun _ h9 => h9) rfl dX11_loadWeather_101 ?_
              refine lv_icmp_ge (tgt := 181) hx hb dX11_loadWeather_104 (by decide) (fun c4 => ?_) (fun c4 => ?_)
              · have c4 : y.2.1 ≤ y.2.2.1 := (nI_leI (a := y.2.1) (b := y.2.2.1) (by omega) (by omega)).mp c4
                exact kk (y, f) ((Eq.trans (if_pos c4) (rfl)).symm) hyk hyn hya hyo H locs hP hD hS ls (lv_sub hl [0, 1, 2] rfl)
              · have c4 : ¬ (y.2.1 ≤ y.2.2.1) := fun h9 => c4 ((nI_leI (a := y.2.1) (b := y.2.2.1) (by omega) (by omega)).mpr h9)
                refine lv_aload_n hx hb dX11_loadWeather_107 rfl (lv_at hl 2 rfl) ?_
                have hPc : va_P D vwCl (wF [gN b0 b1 b2 y, gI cI b2 100 x2]) H := w_psub hP [0, 2] rfl
                have hDc : va_D A (wF [gN b0 b1 b2 y, gI cI b2 100 x2]) := w_gsub hD [0, 2] rfl rfl
                refine c_Mz (F := F11_takesEntry y x2) (G1 := (fun w => [gN b0 b1 b2 w, gI cI b2 100 x2])) (Gr := [gR cL b1 f]) (Gs' := fun z5 => [gN b0 b1 b2 z5.2, gR cL b1 f, gI cI b2 100 x2]) (va_runV (As := []) (rest := []) ⟨hx, hb, hml, hown, hts⟩ (m11_takesEntry l D cI cL cP b0 b1 b2 y x2 hya (by rw [hyn]; exact hlen) H.size) (cwV 0 hts gX11_loadWeather_X11_takesEntry rfl rfl rfl (by decide +kernel) ⟨Nat.le_of_ble_eq_true rfl, Nat.le_of_ble_eq_true rfl⟩) (preM_V (q := (RX11, TX11, 10)) (q0 := 0) hQ hPc hDc rfl rfl) rfl rfl hl.1 rfl (lv_room (Nat.le_of_ble_eq_true rfl)) dX11_loadWeather_108 ⟨Nat.le_of_ble_eq_true rfl, Nat.le_of_ble_eq_true rfl⟩) hS hA hP hD [0, 2] [1] [0, 2, 1] rfl rfl rfl rfl rfl (fun _ => rfl) (fun z5 H locs hz5 hP hD hS => ?_)
                have hP : va_P D vwCl (wF [gN b0 b1 b2 z5.2, gR cL b1 f, gI cI b2 100 x2]) H := hP
                have hD : va_D A (wF [gN b0 b1 b2 z5.2, gR cL b1 f, gI cI b2 100 x2]) := hD
                have hte_z5 : tR z5 y.1 y.2.1 (pE x2 y.2.1 y.2.2.1) := by rw [hz5]; exact te_eq y x2
                have hpe_z5 := pE_ok x2 y.2.1 y.2.2.1 hya
                have htl_z5 : z5.2.2.1 = y.2.1 := hte_z5.2.2.1
                have htk_z5 : z5.2.1 = y.1 := hte_z5.2.1
                have hae_z5 : z5.2.2.2.1 = (pE x2 y.2.1 y.2.2.1).2.1 := hte_z5.2.2.2.1
                have hta_z5 : z5.2.2.2.1 ≤ z5.2.2.1 := by rw [hae_z5, htl_z5]; exact hpe_z5.2.1
                obtain ⟨hsu_z5, hok_z5⟩ := okW_s (n := y.2.1) (by rw [hyn]; exact hyo) (by omega)
                obtain ⟨hlt_z5, ⟨hf0_z5, hf1_z5⟩, ⟨ht0_z5, ht1_z5⟩, htr_z5⟩ := hpe_z5.2.2 hsu_z5
                have hfd_z5 : z5.2.2.2.2.2 = (pE x2 y.2.1 y.2.2.1).2.2 := hte_z5.2.2.2.2 hsu_z5
                rw [← hfd_z5] at hf0_z5 hf1_z5 ht0_z5 ht1_z5
                have hfn_z5 := w_natT (n := 23) hf1_z5
                have htn_z5 := w_natT (n := 23) ht1_z5
                refine lv_pop hx hb dX11_loadWeather_111 rfl ?_
                refine lv_aload_n hx hb dX11_loadWeather_112 rfl (lv_at hl 2 rfl) ?_
                refine va_get (D := D) (ci := 11) (v := .int z5.2.2.2.2.2.1) (C := RX11) (T := TX11) (N := 10) hx hb hts hinX11 hown hQ.1 hP 0 rfl rfl 6 (by decide) (hts (.fieldLink RX11 227 "HeatPumpPlantModel" "from" "I") (List.mem_of_getElem? (i := 7) rfl)) (fun _ h9 => h9) rfl dX11_loadWeather_113 ?_
                refine w_topn ((z5.2.2.2.2.2.1).toNatClampNeg) (w_nat (w_i0 hf0_z5)) ?_
                refine lv_istore_n (lv' := [(3, .int (nI ((z5.2.2.2.2.2.1).toNatClampNeg))), (2, .int (bI ok)), (1, .int (nI cnt)), (0, .ref b0)]) hx hb dX11_loadWeather_116 rfl hl (by decide) rfl (fun ls hl => ?_)
                have loop117 : ∀ (fu : Nat) (i : Nat) (r : Nat → Int64) (hi : i ≤ 24) (hm : 24 - i < fu) (kk : ∀ z : Nat × (Nat → Int64), z = L11_loadWeather_117 x0 x1 x2 z3 z5 cnt ok x y f fu i r → ((z.1) ≤ 24) → ∀ (H : Heap) (locs : List Loc) (_ : va_P D vwCl (wF [gN b0 b1 b2 z5.2, gR cL b1 z.2, gI cI b2 100 x2]) H) (_ : va_D A (wF [gN b0 b1 b2 z5.2, gR cL b1 z.2, gI cI b2 100 x2])) (_ : va_S A s.heap H locs) (ls : Array Slot) (_ : lv_has ls 4 [(3, .int (nI z.1)), (2, .int (bI ok)), (1, .int (nI cnt)), (0, .ref b0)]), W p l e (headSpec wsX11_loadWeather ({ frames := 4, cells := 0, slots := 0, locals := 89 })).room s m #[.ref b0] below meth c H locs 0 0 (MQ below (va_Qi (fun (r : Int32) (w : MoN × (Nat → Int64)) => (r, w) = F11_loadWeather x0 x1 x2) (qW D A (fun w : MoN × (Nat → Int64) => (wF [gN b0 b1 b2 w.1, gR cL b1 w.2, gI cI b2 100 x2]))) A) #[.ref b0] s 0 0 A) (F0 m 178 ls [])), ∀ (H : Heap) (locs : List Loc) (_ : va_P D vwCl (wF [gN b0 b1 b2 z5.2, gR cL b1 r, gI cI b2 100 x2]) H) (_ : va_D A (wF [gN b0 b1 b2 z5.2, gR cL b1 r, gI cI b2 100 x2])) (_ : va_S A s.heap H locs) (ls : Array Slot) (_ : lv_has ls 4 [(3, .int (nI i)), (2, .int (bI ok)), (1, .int (nI cnt)), (0, .ref b0)]), W p l e (headSpec wsX11_loadWeather ({ frames := 4, cells := 0, slots := 0, locals := 89 })).room s m #[.ref b0] below meth c H locs 0 0 (MQ below (va_Qi (fun (r : Int32) (w : MoN × (Nat → Int64)) => (r, w) = F11_loadWeather x0 x1 x2) (qW D A (fun w : MoN × (Nat → Int64) => (wF [gN b0 b1 b2 w.1, gR cL b1 w.2, gI cI b2 100 x2]))) A) #[.ref b0] s 0 0 A) (F0 m 117 ls []) := by
                  intro fu
                  induction fu with
                  | zero => intro i r hi hm; exact absurd hm (by omega)
                  | succ fu ih =>
                    intro i r hi hm kk H locs hP hD hS ls hl
                    refine lv_iload_n hx hb dX11_loadWeather_117 rfl (lv_at hl 0 rfl) ?_
                    refine lv_aload_n hx hb dX11_loadWeather_118 rfl (lv_at hl 3 rfl) ?_
                    refine va_get (D := D) (ci := 11) (v := .int z5.2.2.2.2.2.2.1) (C := RX11) (T := TX11) (N := 10) hx hb hts hinX11 hown hQ.1 hP 0 rfl rfl 7 (by decide) (hts (.fieldLink RX11 230 "HeatPumpPlantModel" "to" "I") (List.mem_of_getElem? (i := 6) rfl)) (fun _ h9 => h9) rfl dX11_loadWeather_119 ?_
                    refine lv_icmp_gt (tgt := 178) hx hb dX11_loadWeather_122 (by decide) (fun c6 => ?_) (fun c6 => ?_)
                    · have c6 : (z5.2.2.2.2.2.2.1).toNatClampNeg < i := (nI_ltI (a := ((z5.2.2.2.2.2.2.1).toNatClampNeg)) (b := i) (by omega) (by omega)).mp (by have h9 := c6; rw [show z5.2.2.2.2.2.2.1 = nI ((z5.2.2.2.2.2.2.1).toNatClampNeg) from (w_nat (w_i0 ht0_z5))] at h9; exact h9)
                      exact kk (i, r) ((Eq.trans (if_pos c6) (rfl)).symm) hi H locs hP hD hS ls (lv_sub hl [0, 1, 2, 3] rfl)
                    · have c6 : ¬ ((z5.2.2.2.2.2.2.1).toNatClampNeg < i) := fun h8 => by have h9 := c6; rw [show z5.2.2.2.2.2.2.1 = nI ((z5.2.2.2.2.2.2.1).toNatClampNeg) from (w_nat (w_i0 ht0_z5))] at h9; exact h9 ((nI_ltI (a := ((z5.2.2.2.2.2.2.1).toNatClampNeg)) (b := i) (by omega) (by omega)).mpr h8)
                      refine lv_aload_n hx hb dX11_loadWeather_125 rfl (lv_at hl 3 rfl) ?_
                      refine va_get (D := D) (ci := 11) (v := .ref b1) (C := RX11) (T := TX11) (N := 10) hx hb hts hinX11 hown hQ.1 hP 0 rfl rfl 0 (by decide) (hts (.fieldLink RX11 7 "HeatPumpPlantModel" "row" "[J") (List.mem_of_getElem? (i := 8) rfl)) (fun _ h9 => h9) rfl dX11_loadWeather_126 ?_
                      refine lv_bipush (v := (17 : Int32)) hx hb dX11_loadWeather_129 (by decide) ?_
                      refine lv_iload_n hx hb dX11_loadWeather_131 rfl (lv_at hl 0 rfl) ?_
                      refine lv_iadd hx hb dX11_loadWeather_132 ?_
                      refine lv_aload_n hx hb dX11_loadWeather_133 rfl (lv_at hl 3 rfl) ?_
                      refine va_get (D := D) (ci := 11) (v := .int z5.2.2.2.2.2.2.2.1) (C := RX11) (T := TX11) (N := 10) hx hb hts hinX11 hown hQ.1 hP 0 rfl rfl 8 (by decide) (hts (.fieldLink RX11 220 "HeatPumpPlantModel" "degrees" "I") (List.mem_of_getElem? (i := 3) rfl)) (fun _ h9 => h9) rfl dX11_loadWeather_134 ?_
                      refine lv_i2l hx hb dX11_loadWeather_137 rfl ?_
                      refine w_last (f := r) (j := (17 + i)) hx hb hQ.1 hP hD hS 1 1 rfl rfl ((congr (congrArg HAdd.hAdd (show (17 : Int32) = nI 17 from (rfl : (17 : Int32) = nI 17))) (show (nI i) = nI i from rfl)).trans (nI_add 17 i)) (by omega) (by decide) dX11_loadWeather_138 (fun H locs hP hD hS => ?_)
                      have hP : va_P D vwCl (wF [gN b0 b1 b2 z5.2, gR cL b1 (vp_updL r (17 + i) ((z5.2.2.2.2.2.2.2.1).toInt64)), gI cI b2 100 x2]) H := hP
                      have hD : va_D A (wF [gN b0 b1 b2 z5.2, gR cL b1 (vp_updL r (17 + i) ((z5.2.2.2.2.2.2.2.1).toInt64)), gI cI b2 100 x2]) := hD
                      refine lv_aload_n hx hb dX11_loadWeather_139 rfl (lv_at hl 3 rfl) ?_
                      refine va_get (D := D) (ci := 11) (v := .ref b1) (C := RX11) (T := TX11) (N := 10) hx hb hts hinX11 hown hQ.1 hP 0 rfl rfl 0 (by decide) (hts (.fieldLink RX11 7 "HeatPumpPlantModel" "row" "[J") (List.mem_of_getElem? (i := 8) rfl)) (fun _ h9 => h9) rfl dX11_loadWeather_140 ?_
                      refine lv_bipush (v := (41 : Int32)) hx hb dX11_loadWeather_143 (by decide) ?_
                      refine lv_iload_n hx hb dX11_loadWeather_145 rfl (lv_at hl 0 rfl) ?_
                      refine lv_iadd hx hb dX11_loadWeather_146 ?_
                      refine lv_aload_n hx hb dX11_loadWeather_147 rfl (lv_at hl 3 rfl) ?_
                      refine va_get (D := D) (ci := 11) (v := .int z5.2.2.2.2.2.2.2.2) (C := RX11) (T := TX11) (N := 10) hx hb hts hinX11 hown hQ.1 hP 0 rfl rfl 9 (by decide) (hts (.fieldLink RX11 236 "HeatPumpPlantModel" "tariff" "I") (List.mem_of_getElem? (i := 9) rfl)) (fun _ h9 => h9) rfl dX11_loadWeather_148 ?_
                      refine w_diaL (rest := [.int ((41 : Int32) + (nI i)), .ref b1]) (K := (0 : Int32) ≤ z5.2.2.2.2.2.2.2.2) 171 ((z5.2.2.2.2.2.2.2.2).toInt64) (r (41 + i)) (fun kt kf => ?_) ?_
                      · refine lv_if_ge (tgt := 166) hx hb dX11_loadWeather_151 (by decide) (fun c7 => ?_) (fun c7 => ?_)
                        · have c7 : (0 : Int32) ≤ z5.2.2.2.2.2.2.2.2 := c7
                          refine lv_aload_n hx hb dX11_loadWeather_166 rfl (lv_at hl 3 rfl) ?_
                          refine va_get (D := D) (ci := 11) (v := .int z5.2.2.2.2.2.2.2.2) (C := RX11) (T := TX11) (N := 10) hx hb hts hinX11 hown hQ.1 hP 0 rfl rfl 9 (by decide) (hts (.fieldLink RX11 236 "HeatPumpPlantModel" "tariff" "I") (List.mem_of_getElem? (i := 9) rfl)) (fun _ h9 => h9) rfl dX11_loadWeather_167 ?_
                          refine lv_i2l hx hb dX11_loadWeather_170 rfl ?_
                          exact kt c7
                        · have c7 : ¬ ((0 : Int32) ≤ z5.2.2.2.2.2.2.2.2) := c7
                          refine lv_aload_n hx hb dX11_loadWeather_154 rfl (lv_at hl 3 rfl) ?_
                          refine va_get (D := D) (ci := 11) (v := .ref b1) (C := RX11) (T := TX11) (N := 10) hx hb hts hinX11 hown hQ.1 hP 0 rfl rfl 0 (by decide) (hts (.fieldLink RX11 7 "HeatPumpPlantModel" "row" "[J") (List.mem_of_getElem? (i := 8) rfl)) (fun _ h9 => h9) rfl dX11_loadWeather_155 ?_
                          refine lv_bipush (v := (41 : Int32)) hx hb dX11_loadWeather_158 (by decide) ?_
                          refine lv_iload_n hx hb dX11_loadWeather_160 rfl (lv_at hl 0 rfl) ?_
                          refine lv_iadd hx hb dX11_loadWeather_161 ?_
                          refine w_lald (f := (vp_updL r (17 + i) ((z5.2.2.2.2.2.2.2.1).toInt64))) (j := (41 + i)) hx hb hQ.1 hP 1 1 rfl rfl ((congr (congrArg HAdd.hAdd (show (41 : Int32) = nI 41 from (rfl : (41 : Int32) = nI 41))) (show (nI i) = nI i from rfl)).trans (nI_add 41 i)) (by omega) (by decide) dX11_loadWeather_162 ?_
                          refine w_topL (show ((vp_updL r (17 + i) ((z5.2.2.2.2.2.2.2.1).toInt64)) (41 + i)) = (r (41 + i)) from (w_rd (by omega) rfl)) ?_
                          refine lv_goto (tgt := 171) hx hb dX11_loadWeather_163 (by decide) ?_
                          exact kf c7
                      refine w_last (f := (vp_updL r (17 + i) ((z5.2.2.2.2.2.2.2.1).toInt64))) (j := (41 + i)) hx hb hQ.1 hP hD hS 1 1 rfl rfl ((congr (congrArg HAdd.hAdd (show (41 : Int32) = nI 41 from (rfl : (41 : Int32) = nI 41))) (show (nI i) = nI i from rfl)).trans (nI_add 41 i)) (by omega) (by decide) dX11_loadWeather_171 (fun H locs hP hD hS => ?_)
                      have hP : va_P D vwCl (wF [gN b0 b1 b2 z5.2, gR cL b1 (vp_updL (vp_updL r (17 + i) ((z5.2.2.2.2.2.2.2.1).toInt64)) (41 + i) (if (0 : Int32) ≤ z5.2.2.2.2.2.2.2.2 then (z5.2.2.2.2.2.2.2.2).toInt64 else (r (41 + i)))), gI cI b2 100 x2]) H := hP
                      have hD : va_D A (wF [gN b0 b1 b2 z5.2, gR cL b1 (vp_updL (vp_updL r (17 + i) ((z5.2.2.2.2.2.2.2.1).toInt64)) (41 + i) (if (0 : Int32) ≤ z5.2.2.2.2.2.2.2.2 then (z5.2.2.2.2.2.2.2.2).toInt64 else (r (41 + i)))), gI cI b2 100 x2]) := hD
                      refine lv_iinc (v := (nI (i + 1))) (lv' := [(3, .int (nI (i + 1))), (2, .int (bI ok)), (1, .int (nI cnt)), (0, .ref b0)]) hx hb dX11_loadWeather_172 hl (k := 0) rfl (nI_add i 1) (by decide) rfl (fun ls hl => ?_)
                      refine lv_goto (tgt := 117) hx hb dX11_loadWeather_175 (by decide) ?_
                      have hP : va_P D vwCl (wF [gN b0 b1 b2 z5.2, gR cL b1 (vp_updL (vp_updL r (17 + i) ((z5.2.2.2.2.2.2.2.1).toInt64)) (41 + i) (if (0 : Int32) ≤ z5.2.2.2.2.2.2.2.2 then (z5.2.2.2.2.2.2.2.2).toInt64 else (r (41 + i)))), gI cI b2 100 x2]) H := hP
                      have hD : va_D A (wF [gN b0 b1 b2 z5.2, gR cL b1 (vp_updL (vp_updL r (17 + i) ((z5.2.2.2.2.2.2.2.1).toInt64)) (41 + i) (if (0 : Int32) ≤ z5.2.2.2.2.2.2.2.2 then (z5.2.2.2.2.2.2.2.2).toInt64 else (r (41 + i)))), gI cI b2 100 x2]) := hD
                      exact ih (i + 1) (vp_updL (vp_updL r (17 + i) ((z5.2.2.2.2.2.2.2.1).toInt64)) (41 + i) (if (0 : Int32) ≤ z5.2.2.2.2.2.2.2.2 then (z5.2.2.2.2.2.2.2.2).toInt64 else (r (41 + i)))) (by omega) (by omega) (fun z hz => kk z (hz.trans ((Eq.trans (if_neg c6) (rfl)).symm))) H locs hP hD hS ls (lv_sub hl [0, 1, 2, 3] rfl)
                have hP : va_P D vwCl (wF [gN b0 b1 b2 z5.2, gR cL b1 f, gI cI b2 100 x2]) H := hP
                have hD : va_D A (wF [gN b0 b1 b2 z5.2, gR cL b1 f, gI cI b2 100 x2]) := hD
                refine loop117 25 ((z5.2.2.2.2.2.1).toNatClampNeg) f (by omega) (by omega) (fun z8 hz8 hi_z8 H locs hP hD hS ls hl => ?_) H locs hP hD hS ls (lv_sub hl [0, 1, 2, 3] rfl)
                refine lv_goto (tgt := 96) hx hb dX11_loadWeather_178 (by decide) ?_
                have hP : va_P D vwCl (wF [gN b0 b1 b2 z5.2, gR cL b1 z8.2, gI cI b2 100 x2]) H := hP
                have hD : va_D A (wF [gN b0 b1 b2 z5.2, gR cL b1 z8.2, gI cI b2 100 x2]) := hD
                exact ih z5.2 z8.2 (htk_z5.trans hyk) (htl_z5.trans hyn) (hta_z5) ((by rw [hae_z5, ← hyn]; exact hok_z5)) (show z5.2.2.1 - z5.2.2.2.1 < fu by omega) (fun z hz => kk z (hz.trans ((Eq.trans (if_neg c4) (Eq.trans (congrArg (K11_loadWeather_2 x0 x1 x2 cnt ok x y f z3 (L11_loadWeather_96 x0 x1 x2 z3 cnt ok x fu)) hz5.symm) (Eq.trans (congrArg (K11_loadWeather_3 x0 x1 x2 cnt ok x y f z3 z5 (L11_loadWeather_96 x0 x1 x2 z3 cnt ok x fu)) hz8.symm) (rfl)))).symm))) H locs hP hD hS ls (lv_sub hl [1, 2, 3] rfl)
          have hP : va_P D vwCl (wF [gN b0 b1 b2 (z3.2.1.1, z3.2.1.2.1, 0, z3.2.1.2.2.2.1, z3.2.1.2.2.2.2.1, z3.2.1.2.2.2.2.2.1, z3.2.1.2.2.2.2.2.2.1, z3.2.1.2.2.2.2.2.2.2), gR cL b1 z3.2.2, gI cI b2 100 x2]) H := hP
          have hD : va_D A (wF [gN b0 b1 b2 (z3.2.1.1, z3.2.1.2.1, 0, z3.2.1.2.2.2.1, z3.2.1.2.2.2.2.1, z3.2.1.2.2.2.2.2.1, z3.2.1.2.2.2.2.2.2.1, z3.2.1.2.2.2.2.2.2.2), gR cL b1 z3.2.2, gI cI b2 100 x2]) := hD
          refine loop96 101 (z3.2.1.1, z3.2.1.2.1, 0, z3.2.1.2.2.2.1, z3.2.1.2.2.2.2.1, z3.2.1.2.2.2.2.2.1, z3.2.1.2.2.2.2.2.2.1, z3.2.1.2.2.2.2.2.2.2) z3.2.2 ((show z3.2.1.1 = _ by rw [hz3])) (hzn_z3) (Nat.zero_le _) (hyo0) (show z3.2.1.2.1 - 0 < 101 by omega) (fun z9 hz9 hyk_z9 hyn_z9 hya_z9 hyo_z9 H locs hP hD hS ls hl => ?_) H locs hP hD hS ls (lv_sub hl [0, 1, 2] rfl)
          refine lv_iload_n hx hb dX11_loadWeather_181 rfl (lv_at hl 1 rfl) ?_
          exact W.iret (v := (nI cnt)) hx hb hr (fun t ht hW => ⟨⟨(nI cnt), (z9.1, z9.2), rfl, ((hF9.symm.trans (Eq.trans (if_pos c1) (Eq.trans (if_pos c2) (Eq.trans (congrArg (K11_loadWeather_1 x0 x1 x2 cnt ok x (L11_loadWeather_9 x0 x1 x2 fu)) hz3.symm) (Eq.trans (congrArg (K11_loadWeather_4 x0 x1 x2 cnt ok x z3 (L11_loadWeather_9 x0 x1 x2 fu)) hz9.symm) (rfl)))))).symm), by rw [ht]; exact hP, hD⟩, hS.F ht⟩) hS.2.2 dX11_loadWeather_182
        · have c2 : ¬ (ok = true) := bI_0.mp c2
          refine lv_bipush (v := (-2 : Int32)) hx hb dX11_loadWeather_83 (by decide) ?_
          exact W.iret (v := (-2 : Int32)) hx hb hr (fun t ht hW => ⟨⟨(-2 : Int32), (x, x1), rfl, ((hF9.symm.trans (Eq.trans (if_pos c1) (Eq.trans (if_neg c2) (rfl)))).symm), by rw [ht]; exact hP, hD⟩, hS.F ht⟩) hS.2.2 dX11_loadWeather_85
      · have c1 : ¬ (x.2.1 ≤ x.2.2.1) := fun h9 => c1 ((nI_leI (a := x.2.1) (b := x.2.2.1) (by omega) (by omega)).mpr h9)
        refine lv_aload_n hx hb dX11_loadWeather_20 rfl (lv_at hl 2 rfl) ?_
        have hPc : va_P D vwCl (wF [gN b0 b1 b2 x, gI cI b2 100 x2]) H := w_psub hP [0, 2] rfl
        have hDc : va_D A (wF [gN b0 b1 b2 x, gI cI b2 100 x2]) := w_gsub hD [0, 2] rfl rfl
        refine c_Mz (F := F11_takesEntry x x2) (G1 := (fun w => [gN b0 b1 b2 w, gI cI b2 100 x2])) (Gr := [gR cL b1 x1]) (Gs' := fun z10 => [gN b0 b1 b2 z10.2, gR cL b1 x1, gI cI b2 100 x2]) (va_runV (As := []) (rest := []) ⟨hx, hb, hml, hown, hts⟩ (m11_takesEntry l D cI cL cP b0 b1 b2 x x2 hxa (by rw [hxn]; exact hlen) H.size) (cwV 0 hts gX11_loadWeather_X11_takesEntry rfl rfl rfl (by decide +kernel) ⟨Nat.le_of_ble_eq_true rfl, Nat.le_of_ble_eq_true rfl⟩) (preM_V (q := (RX11, TX11, 10)) (q0 := 0) hQ hPc hDc rfl rfl) rfl rfl hl.1 rfl (lv_room (Nat.le_of_ble_eq_true rfl)) dX11_loadWeather_21 ⟨Nat.le_of_ble_eq_true rfl, Nat.le_of_ble_eq_true rfl⟩) hS hA hP hD [0, 2] [1] [0, 2, 1] rfl rfl rfl rfl rfl (fun _ => rfl) (fun z10 H locs hz10 hP hD hS => ?_)
        have hP : va_P D vwCl (wF [gN b0 b1 b2 z10.2, gR cL b1 x1, gI cI b2 100 x2]) H := hP
        have hD : va_D A (wF [gN b0 b1 b2 z10.2, gR cL b1 x1, gI cI b2 100 x2]) := hD
        have hte_z10 : tR z10 x.1 x.2.1 (pE x2 x.2.1 x.2.2.1) := by rw [hz10]; exact te_eq x x2
        have hpe_z10 := pE_ok x2 x.2.1 x.2.2.1 hxa
        have htl_z10 : z10.2.2.1 = x.2.1 := hte_z10.2.2.1
        have htk_z10 : z10.2.1 = x.1 := hte_z10.2.1
        have hae_z10 : z10.2.2.2.1 = (pE x2 x.2.1 x.2.2.1).2.1 := hte_z10.2.2.2.1
        have hta_z10 : z10.2.2.2.1 ≤ z10.2.2.1 := by rw [hae_z10, htl_z10]; exact hpe_z10.2.1
        refine lv_if_ne (tgt := 35) hx hb dX11_loadWeather_24 (by decide) (fun c11 => ?_) (fun c11 => ?_)
        · have c11 : z10.1 = true := bI_1.mp c11
          have hsu_z10 : (pE x2 x.2.1 x.2.2.1).1 = true := hte_z10.1.symm.trans c11
          have hlt_z10 := (hpe_z10.2.2 hsu_z10).1
          refine w_suf (P := ∀ z : Bool, z = B11_loadWeather_35 x0 x1 x2 cnt ok x z10 → ∀ (H : Heap) (locs : List Loc) (_ : va_P D vwCl (wF [gN b0 b1 b2 z10.2, gR cL b1 x1, gI cI b2 100 x2]) H) (_ : va_D A (wF [gN b0 b1 b2 z10.2, gR cL b1 x1, gI cI b2 100 x2])) (_ : va_S A s.heap H locs) (ls : Array Slot) (_ : lv_has ls 4 [(2, .int (bI z)), (1, .int (nI cnt)), (0, .ref b0)]), W p l e (headSpec wsX11_loadWeather ({ frames := 4, cells := 0, slots := 0, locals := 89 })).room s m #[.ref b0] below meth c H locs 0 0 (MQ below (va_Qi (fun (r : Int32) (w : MoN × (Nat → Int64)) => (r, w) = F11_loadWeather x0 x1 x2) (qW D A (fun w : MoN × (Nat → Int64) => (wF [gN b0 b1 b2 w.1, gR cL b1 w.2, gI cI b2 100 x2]))) A) #[.ref b0] s 0 0 A) (F0 m 73 ls [])) (fun kk => ?_) ?_
          · refine lv_iload_n hx hb dX11_loadWeather_35 rfl (lv_at hl 0 rfl) ?_
            refine lv_if_eq (tgt := 71) hx hb dX11_loadWeather_36 (by decide) (fun c12 => ?_) (fun c12 => ?_)
            · have c12 : ¬ (ok = true) := bI_0.mp c12
              refine lv_iconst (v := (0 : Int32)) hx hb dX11_loadWeather_71 (by decide) ?_
              refine lv_istore_n (lv' := [(2, .int (0 : Int32)), (1, .int (nI cnt)), (0, .ref b0)]) hx hb dX11_loadWeather_72 rfl hl (by decide) rfl (fun ls hl => ?_)
              exact kk false ((Eq.trans (if_neg c12) (rfl)).symm) H locs hP hD hS ls (lv_sub hl [0, 1, 2] rfl)
            · have c12 : ok = true := bI_1.mp c12
              refine lv_aload_n hx hb dX11_loadWeather_39 rfl (lv_at hl 2 rfl) ?_
              refine va_get (D := D) (ci := 11) (v := .int z10.2.2.2.2.2.2.2.1) (C := RX11) (T := TX11) (N := 10) hx hb hts hinX11 hown hQ.1 hP 0 rfl rfl 8 (by decide) (hts (.fieldLink RX11 220 "HeatPumpPlantModel" "degrees" "I") (List.mem_of_getElem? (i := 3) rfl)) (fun _ h9 => h9) rfl dX11_loadWeather_40 ?_
              refine lv_i2l hx hb dX11_loadWeather_43 rfl ?_
              refine lv_ldc2 (own := RX11) (index := 80) (v := (-300 : Int64)) hx hb hown (hts (.constantLong RX11 80 (-300)) (List.mem_of_getElem? (i := 4) rfl)) dX11_loadWeather_44 ?_
              refine lv_ldc2 (own := RX11) (index := 82) (v := (400 : Int64)) hx hb hown (hts (.constantLong RX11 82 (400)) (List.mem_of_getElem? (i := 5) rfl)) dX11_loadWeather_47 ?_
              have hPc : va_P D vwCl (wF []) H := hP.sub [] rfl
              refine c_Ri (va_runS (As := [.long ((z10.2.2.2.2.2.2.2.1).toInt64), .long (-300 : Int64), .long (400 : Int64)]) (rest := []) ⟨hx, hb, hml, hown, hts⟩ (m11_in l D cI cL cP ((z10.2.2.2.2.2.2.2.1).toInt64) (-300 : Int64) (400 : Int64) H) (va_cwS 3 hts gX11_loadWeather_X11_in rfl rfl rfl (by decide +kernel) ⟨Nat.le_of_ble_eq_true rfl, Nat.le_of_ble_eq_true rfl⟩) (preR_S hQ hPc) rfl rfl hl.1 rfl (lv_room (Nat.le_of_ble_eq_true rfl)) dX11_loadWeather_50 ⟨Nat.le_of_ble_eq_true rfl, Nat.le_of_ble_eq_true rfl⟩) hS (fun locs hS => ?_)
              refine lv_if_eq (tgt := 71) hx hb dX11_loadWeather_53 (by decide) (fun c13 => ?_) (fun c13 => ?_)
              · have c13 : ¬ ((F11_in ((z10.2.2.2.2.2.2.2.1).toInt64) (-300 : Int64) (400 : Int64)) = true) := bI_0.mp c13
                refine lv_iconst (v := (0 : Int32)) hx hb dX11_loadWeather_71 (by decide) ?_
                refine lv_istore_n (lv' := [(2, .int (0 : Int32)), (1, .int (nI cnt)), (0, .ref b0)]) hx hb dX11_loadWeather_72 rfl hl (by decide) rfl (fun ls hl => ?_)
                exact kk false ((Eq.trans (if_pos c12) (Eq.trans (if_neg c13) (rfl))).symm) H locs hP hD hS ls (lv_sub hl [0, 1, 2] rfl)
              · have c13 : (F11_in ((z10.2.2.2.2.2.2.2.1).toInt64) (-300 : Int64) (400 : Int64)) = true := bI_1.mp c13
                refine lv_aload_n hx hb dX11_loadWeather_56 rfl (lv_at hl 2 rfl) ?_
                refine va_get (D := D) (ci := 11) (v := .int z10.2.2.2.2.2.2.1) (C := RX11) (T := TX11) (N := 10) hx hb hts hinX11 hown hQ.1 hP 0 rfl rfl 7 (by decide) (hts (.fieldLink RX11 230 "HeatPumpPlantModel" "to" "I") (List.mem_of_getElem? (i := 6) rfl)) (fun _ h9 => h9) rfl dX11_loadWeather_57 ?_
                refine lv_aload_n hx hb dX11_loadWeather_60 rfl (lv_at hl 2 rfl) ?_
                refine va_get (D := D) (ci := 11) (v := .int z10.2.2.2.2.2.1) (C := RX11) (T := TX11) (N := 10) hx hb hts hinX11 hown hQ.1 hP 0 rfl rfl 6 (by decide) (hts (.fieldLink RX11 227 "HeatPumpPlantModel" "from" "I") (List.mem_of_getElem? (i := 7) rfl)) (fun _ h9 => h9) rfl dX11_loadWeather_61 ?_
                refine lv_icmp_lt (tgt := 71) hx hb dX11_loadWeather_64 (by decide) (fun c14 => ?_) (fun c14 => ?_)
                · have c14 : z10.2.2.2.2.2.2.1 < z10.2.2.2.2.2.1 := c14
                  refine lv_iconst (v := (0 : Int32)) hx hb dX11_loadWeather_71 (by decide) ?_
                  refine lv_istore_n (lv' := [(2, .int (0 : Int32)), (1, .int (nI cnt)), (0, .ref b0)]) hx hb dX11_loadWeather_72 rfl hl (by decide) rfl (fun ls hl => ?_)
                  exact kk false ((Eq.trans (if_pos c12) (Eq.trans (if_pos c13) (Eq.trans (if_pos c14) (rfl)))).symm) H locs hP hD hS ls (lv_sub hl [0, 1, 2] rfl)
                · have c14 : ¬ (z10.2.2.2.2.2.2.1 < z10.2.2.2.2.2.1) := c14
                  refine lv_iconst (v := (1 : Int32)) hx hb dX11_loadWeather_67 (by decide) ?_
                  refine lv_goto (tgt := 72) hx hb dX11_loadWeather_68 (by decide) ?_
                  refine lv_istore_n (lv' := [(2, .int (1 : Int32)), (1, .int (nI cnt)), (0, .ref b0)]) hx hb dX11_loadWeather_72 rfl hl (by decide) rfl (fun ls hl => ?_)
                  exact kk true ((Eq.trans (if_pos c12) (Eq.trans (if_pos c13) (Eq.trans (if_neg c14) (rfl)))).symm) H locs hP hD hS ls (lv_sub hl [0, 1, 2] rfl)
          intro z15 hz15  H locs hP hD hS ls hl
          refine lv_iinc (v := (nI (cnt + 1))) (lv' := [(1, .int (nI (cnt + 1))), (2, .int (bI z15)), (0, .ref b0)]) hx hb dX11_loadWeather_73 hl (k := 1) rfl (nI_add cnt 1) (by decide) rfl (fun ls hl => ?_)
          refine lv_goto (tgt := 9) hx hb dX11_loadWeather_76 (by decide) ?_
          have hP : va_P D vwCl (wF [gN b0 b1 b2 z10.2, gR cL b1 x1, gI cI b2 100 x2]) H := hP
          have hD : va_D A (wF [gN b0 b1 b2 z10.2, gR cL b1 x1, gI cI b2 100 x2]) := hD
          exact ih (cnt + 1) z15 z10.2 (htk_z10.trans hxk) (htl_z10.trans hxn) (hta_z10) (fun fu h => hxo (fu + 1) (by rw [← hxn]; rw [hae_z10, ← hxn] at h; exact ⟨hsu_z10, h⟩)) (show z10.2.2.1 - z10.2.2.2.1 < fu by omega) (((Eq.trans (if_neg c1) (Eq.trans (congrArg (K11_loadWeather_5 x0 x1 x2 cnt ok x (L11_loadWeather_9 x0 x1 x2 fu)) hz10.symm) (Eq.trans (if_pos c11) (Eq.trans (congrArg (K11_loadWeather_6 x0 x1 x2 cnt ok x z10 (L11_loadWeather_9 x0 x1 x2 fu)) hz15.symm) (rfl))))).symm.trans hF9)) H locs hP hD hS ls (lv_sub hl [1, 0, 2] rfl)
        · have c11 : ¬ (z10.1 = true) := bI_0.mp c11
          refine lv_bipush (v := (-10 : Int32)) hx hb dX11_loadWeather_27 (by decide) ?_
          refine lv_aload_n hx hb dX11_loadWeather_29 rfl (lv_at hl 2 rfl) ?_
          refine va_get (D := D) (ci := 11) (v := .int (nI z10.2.2.2.1)) (C := RX11) (T := TX11) (N := 10) hx hb hts hinX11 hown hQ.1 hP 0 rfl rfl 4 (by decide) (hts (.fieldLink RX11 204 "HeatPumpPlantModel" "at" "I") (List.mem_of_getElem? (i := 1) rfl)) (fun _ h9 => h9) rfl dX11_loadWeather_30 ?_
          refine lv_isub hx hb dX11_loadWeather_33 ?_
          exact W.iret (v := ((-10 : Int32) - (nI z10.2.2.2.1))) hx hb hr (fun t ht hW => ⟨⟨((-10 : Int32) - (nI z10.2.2.2.1)), (z10.2, x1), rfl, ((hF9.symm.trans (Eq.trans (if_neg c1) (Eq.trans (congrArg (K11_loadWeather_5 x0 x1 x2 cnt ok x (L11_loadWeather_9 x0 x1 x2 fu)) hz10.symm) (Eq.trans (if_neg c11) (rfl))))).symm), by rw [ht]; exact hP, hD⟩, hS.F ht⟩) hS.2.2 dX11_loadWeather_34
  have hP : va_P D vwCl (wF [gN b0 b1 b2 (x0.1, x0.2.1, 0, x0.2.2.2.1, x0.2.2.2.2.1, x0.2.2.2.2.2.1, x0.2.2.2.2.2.2.1, x0.2.2.2.2.2.2.2), gR cL b1 x1, gI cI b2 100 x2]) H := hP
  have hD : va_D A (wF [gN b0 b1 b2 (x0.1, x0.2.1, 0, x0.2.2.2.1, x0.2.2.2.2.1, x0.2.2.2.2.2.1, x0.2.2.2.2.2.2.1, x0.2.2.2.2.2.2.2), gR cL b1 x1, gI cI b2 100 x2]) := hD
  exact loop9 101 0 true (x0.1, x0.2.1, 0, x0.2.2.2.1, x0.2.2.2.2.1, x0.2.2.2.2.2.1, x0.2.2.2.2.2.2.1, x0.2.2.2.2.2.2.2) (rfl) (rfl) (Nat.zero_le _) (fun fu h => ⟨fu, h⟩) (show x0.2.1 - 0 < 101 by omega) ((rfl).symm) H locs hP hD hS ls (lv_sub hl [0, 1, 2] rfl)
