abbrev vwCl : List vw_C := [(RX0, TX0, 11), (RX1, TX1, 2), (RX2, TX2, 5), (RX3, TX3, 3), (RX4, TX4, 3), (RX5, TX5, 8), (RX6, TX6, 7), (RX7, TX7, 1), (RX8, TX8, 3), (RX9, TX9, 7), (RX10, TX10, 4)]
/-! groups of cells, and what a call does to them -/
def wF (Gs : List va_W) : va_W := Gs.flatten
theorem w_D {A : Nat → Prop} {ws : va_W} : va_D A ws ↔ ws.Pairwise (fun x y => x.1 ≠ y.1) ∧ ∀ q ∈ ws, A q.1 := by
  constructor
  · intro h
    refine ⟨List.pairwise_iff_getElem.mpr (fun i j hi hj hij e => ?_), fun q hq => ?_⟩
    · have := h.1 i j _ _ (List.getElem?_eq_getElem hi) (List.getElem?_eq_getElem hj) e
      omega
    · obtain ⟨k, hk⟩ := List.mem_iff_getElem?.mp hq
      exact h.2 k q hk
  · intro h
    refine ⟨fun i j p q hp hq e => ?_, fun k q hk => h.2 q (List.mem_of_getElem? hk)⟩
    obtain ⟨hi, rfl⟩ := List.getElem?_eq_some_iff.mp hp
    obtain ⟨hj, rfl⟩ := List.getElem?_eq_some_iff.mp hq
    have hpw := List.pairwise_iff_getElem.mp h.1
    rcases Nat.lt_trichotomy i j with hl | hl | hl
    · exact absurd e (hpw i j hi hj hl)
    · exact hl
    · exact absurd e.symm (hpw j i hj hi hl)
theorem w_P {D : va_G} {cl : List vw_C} {ws : va_W} {H : Heap} : va_P D cl ws H ↔ ∀ q ∈ ws, va_at D cl q H := ⟨fun h q hq => by
  obtain ⟨k, hk⟩ := List.mem_iff_getElem?.mp hq
  exact h k q hk, fun h k q hk => h q (List.mem_of_getElem? hk)⟩
theorem w_sel {α : Type} {Gs Gs' : List α} {is : List Nat} (hs : is.map (fun i => Gs[i]?) = Gs'.map some) : ∀ (k : Nat) (g : α), Gs'[k]? = some g → ∃ i, is[k]? = some i ∧ Gs[i]? = some g := by
  intro k q hk
  have h1 : (is.map (fun i => Gs[i]?))[k]? = some (some q) := by rw [hs, List.getElem?_map, hk]; rfl
  rw [List.getElem?_map] at h1
  cases hi : is[k]? with
  | none => rw [hi] at h1; cases h1
  | some i => rw [hi] at h1; exact ⟨i, rfl, Option.some.inj h1⟩
theorem w_selm {α : Type} {Gs Gs' : List α} {is : List Nat} (hs : is.map (fun i => Gs[i]?) = Gs'.map some) : ∀ g ∈ Gs', g ∈ Gs := by
  intro g hg
  obtain ⟨k, hk⟩ := List.mem_iff_getElem?.mp hg
  obtain ⟨i, -, hi⟩ := w_sel hs k g hk
  exact List.mem_of_getElem? hi
theorem w_psub {D : va_G} {cl : List vw_C} {Gs Gs' : List va_W} {H : Heap} (hP : va_P D cl (wF Gs) H) (is : List Nat) (hs : is.map (fun i => Gs[i]?) = Gs'.map some) : va_P D cl (wF Gs') H := by
  refine w_P.mpr (fun q hq => ?_)
  obtain ⟨g, hg, hqg⟩ := List.mem_flatten.mp hq
  exact w_P.mp hP q (List.mem_flatten.mpr ⟨g, w_selm hs g hg, hqg⟩)
theorem w_gsub {A : Nat → Prop} {Gs Gs' : List va_W} (hD : va_D A (wF Gs)) (is : List Nat) (hn : va_nd is = true) (hs : is.map (fun i => Gs[i]?) = Gs'.map some) : va_D A (wF Gs') := by
  obtain ⟨h1, h2⟩ := w_D.mp hD
  obtain ⟨h3, h4⟩ := List.pairwise_flatten.mp h1
  refine w_D.mpr ⟨List.pairwise_flatten.mpr ⟨fun g hg => h3 g (w_selm hs g hg), List.pairwise_iff_getElem.mpr (fun i j hi hj hij x hx y hy => ?_)⟩, fun q hq => ?_⟩
  · obtain ⟨a, ha, hga⟩ := w_sel hs i _ (List.getElem?_eq_getElem hi)
    obtain ⟨b, hb, hgb⟩ := w_sel hs j _ (List.getElem?_eq_getElem hj)
    obtain ⟨hal, hae⟩ := List.getElem?_eq_some_iff.mp hga
    obtain ⟨hbl, hbe⟩ := List.getElem?_eq_some_iff.mp hgb
    rw [← hae] at hx
    rw [← hbe] at hy
    rcases Nat.lt_trichotomy a b with hl | hl | hl
    · exact List.pairwise_iff_getElem.mp h4 a b hal hbl hl x hx y hy
    · subst hl
      have := va_nd_inj is hn i j a ha hb
      omega
    · exact fun e => List.pairwise_iff_getElem.mp h4 b a hbl hal hl y hy x hx e.symm
  · obtain ⟨g, hg, hqg⟩ := List.mem_flatten.mp hq
    exact h2 q (List.mem_flatten.mpr ⟨g, w_selm hs g hg, hqg⟩)
theorem w_ajoin {A0 : Nat → Prop} {D : va_G} {cl : List vw_C} {wc wr w1 : va_W} {H H1 : Heap} (hP : va_P D cl (wc ++ wr) H) (hD : va_D A0 (wc ++ wr))
    (hk : ∀ q : Nat, q < H.size → ¬ va_A wc H.size q → H1[q]? = H[q]?) (hF : ∀ q, va_A wc H.size q → A0 q) (hP1 : va_P D cl w1 H1) (hD1 : va_D (va_A wc H.size) w1) : va_P D cl (w1 ++ wr) H1 ∧ va_D A0 (w1 ++ wr) := by
  obtain ⟨h1, h2⟩ := w_D.mp hD
  obtain ⟨h3, h4, h5⟩ := List.pairwise_append.mp h1
  obtain ⟨h6, h7⟩ := w_D.mp hD1
  have apart : ∀ q ∈ wr, q.1 < H.size ∧ ¬ va_A wc H.size q.1 := by
    intro q hq
    have hl := (w_P.mp hP q (List.mem_append_right _ hq)).lt
    refine ⟨hl, fun h => ?_⟩
    rcases h with ⟨k, e, h⟩ | h
    · exact h5 _ (List.mem_of_getElem? h) q hq rfl
    · omega
  refine ⟨w_P.mpr (fun q hq => ?_), w_D.mpr ⟨List.pairwise_append.mpr ⟨h6, h4, fun x hx y hy e => ?_⟩, fun q hq => ?_⟩⟩
  · rcases List.mem_append.mp hq with h | h
    · exact w_P.mp hP1 q h
    · exact (w_P.mp hP q (List.mem_append_right _ h)).kept (hk q.1 (apart q h).1 (apart q h).2)
  · exact (apart y hy).2 (by rw [← e]; exact h7 x hx)
  · rcases List.mem_append.mp hq with h | h
    · exact hF _ (h7 q h)
    · exact h2 q (List.mem_append_right _ h)
theorem w_app (G1 G2 : List va_W) : wF (G1 ++ G2) = wF G1 ++ wF G2 := by unfold wF; exact List.flatten_append
theorem w_gjoin {A0 : Nat → Prop} {D : va_G} {cl : List vw_C} {Gs Gc Gr G1 Gs' : List va_W} {H H1 : Heap} (hP : va_P D cl (wF Gs) H) (hD : va_D A0 (wF Gs)) (isC isR isO : List Nat) (hC : isC.map (fun i => Gs[i]?) = Gc.map some) (hR : isR.map (fun i => Gs[i]?) = Gr.map some) (hn : va_nd (isC ++ isR) = true)
    (hno : va_nd isO = true) (hO : isO.map (fun i => (G1 ++ Gr)[i]?) = Gs'.map some)
    (hk : ∀ q : Nat, q < H.size → ¬ va_A (wF Gc) H.size q → H1[q]? = H[q]?) (hF : ∀ q, va_A (wF Gc) H.size q → A0 q) (hP1 : va_P D cl (wF G1) H1) (hD1 : va_D (va_A (wF Gc) H.size) (wF G1)) : va_P D cl (wF Gs') H1 ∧ va_D A0 (wF Gs') := by
  have hs : (isC ++ isR).map (fun i => Gs[i]?) = (Gc ++ Gr).map some := by rw [List.map_append, List.map_append, hC, hR]
  have hP2 := w_psub hP (isC ++ isR) hs
  have hD2 := w_gsub hD (isC ++ isR) hn hs
  rw [w_app] at hP2 hD2
  obtain ⟨h1, h2⟩ := w_ajoin hP2 hD2 hk hF hP1 hD1
  rw [← w_app] at h1 h2
  exact ⟨w_psub h1 isO hO, w_gsub h2 isO hno hO⟩
theorem w_free {A0 : Nat → Prop} {wc : va_W} {H0 H : Heap} {locs : List Loc} (hD : va_D A0 wc) (hS : va_S A0 H0 H locs) (hA : ∀ q, H0.size ≤ q → A0 q) : ∀ q, va_A wc H.size q → A0 q := by
  intro q h
  rcases h with ⟨k, e, h⟩ | h
  · exact hD.2 k (q, e) h
  · exact hA q (Nat.le_trans hS.1 h)
/-! a plant as one group, or as its parts -/
theorem w_opn (G1 I G2 : List va_W) : wF (G1 ++ wF I :: G2) = wF (G1 ++ (I ++ G2)) := by
  unfold wF
  rw [List.flatten_append, List.flatten_cons, List.flatten_append, List.flatten_append]
theorem w_opP {D : va_G} {cl : List vw_C} {H : Heap} (G1 I G2 : List va_W) (h : va_P D cl (wF (G1 ++ wF I :: G2)) H) : va_P D cl (wF (G1 ++ (I ++ G2))) H := by rw [← w_opn]; exact h
theorem w_clP {D : va_G} {cl : List vw_C} {H : Heap} (G1 I G2 : List va_W) (h : va_P D cl (wF (G1 ++ (I ++ G2))) H) : va_P D cl (wF (G1 ++ wF I :: G2)) H := by rw [w_opn]; exact h
theorem w_opD {A : Nat → Prop} (G1 I G2 : List va_W) (h : va_D A (wF (G1 ++ wF I :: G2))) : va_D A (wF (G1 ++ (I ++ G2))) := by rw [← w_opn]; exact h
theorem w_clD {A : Nat → Prop} (G1 I G2 : List va_W) (h : va_D A (wF (G1 ++ (I ++ G2)))) : va_D A (wF (G1 ++ wF I :: G2)) := by rw [w_opn]; exact h
def w_up {α : Type} (h : Nat → α) (n : Nat) (v : α) : Nat → α := fun q => if q = n then v else h q
theorem w_suf {P Q : Prop} (h : P → Q) (hp : P) : Q := h hp
/-! booleans, ints -/
def bI (b : Bool) : Int32 := if b then 1 else 0
theorem bI_0 {b : Bool} : bI b = 0 ↔ ¬ (b = true) := by cases b <;> decide
theorem bI_1 {b : Bool} : ¬ bI b = 0 ↔ b = true := by cases b <;> decide
theorem bI_n (b : Bool) : narrow .boolean (.int (bI b)) = .int (bI b) := by cases b <;> rfl
theorem w_in {i : Int32} {n : Nat} (hn : n < 2 ^ 31) (h0 : 0 ≤ i) (h1 : i < nI n) : vp_in i n := by
  rw [vp_in_iff]
  have a := Int32.le_iff_toInt_le.mp h0
  have b := Int32.lt_iff_toInt_lt.mp h1
  rw [nI_toInt hn] at b
  exact ⟨a, b⟩
theorem w_inx {i : Int32} {n : Nat} (hn : n < 2 ^ 31) (h0 : ¬ i < 0) (h1 : ¬ nI n ≤ i) : vp_in i n := by
  refine w_in hn ?_ ?_
  · exact Int32.not_lt.mp h0
  · exact Int32.not_le.mp h1
theorem w_pred {i : Nat} (h : 0 < i) : nI i + Int32.ofInt (-1) = nI (i - 1) := by
  obtain ⟨j, rfl⟩ : ∃ j, i = j + 1 := ⟨i - 1, by omega⟩
  rw [show Int32.ofInt (-1) = -1 from by decide, Nat.add_sub_cancel]
  exact pk_m1 j
theorem w_nat {x : Int32} (h : ¬ x < 0) : x = nI x.toNatClampNeg := by
  obtain ⟨j, hj, e⟩ := nI_of h
  rw [e, nI_clamp hj]
theorem w_ge1 {x : Int32} (h : ¬ x < 1) : ¬ x < 0 := by
  intro h0
  apply h
  rw [Int32.lt_iff_toInt_lt] at h0 ⊢
  have e0 : (0 : Int32).toInt = 0 := by decide
  have e1 : (1 : Int32).toInt = 1 := by decide
  omega
/-- no carry: the numbers stay within -/
theorem w_bm {x : Int} (h1 : -2147483648 ≤ x) (h2 : x < 2147483648) : x.bmod (2 ^ 32) = x := Int.bmod_eq_of_le (by omega) (by omega)
theorem w_lo (x : Int32) : -2147483648 ≤ x.toInt := by have h := Int32.le_toInt x; omega
theorem w_hi (x : Int32) : x.toInt < 2147483648 := by have h := Int32.toInt_lt x; omega
theorem w_m1 {i p : Int32} (h : p < i) : (i + (-1 : Int32)).toInt = i.toInt - 1 := by
  have h1 := Int32.lt_iff_toInt_lt.mp h
  have h2 := w_lo p
  have h3 := w_hi i
  rw [Int32.toInt_add, show (-1 : Int32).toInt = -1 from by decide, w_bm (by omega) (by omega)]
  omega
theorem w_p1 {i p : Int32} (h : i < p) : (i + (1 : Int32)).toInt = i.toInt + 1 := by
  have h1 := Int32.lt_iff_toInt_lt.mp h
  have h2 := w_lo i
  have h3 := w_hi p
  rw [Int32.toInt_add, show (1 : Int32).toInt = 1 from by decide, w_bm (by omega) (by omega)]
theorem w_dec {i p : Int32} {k : Nat} (h : ¬ i ≤ p) (hm : (i.toInt - p.toInt).toNat < k + 1) : ((i + (-1 : Int32)).toInt - p.toInt).toNat < k := by
  have h1 := Int32.not_le.mp h
  have h2 := Int32.lt_iff_toInt_lt.mp h1
  rw [w_m1 h1]
  omega
theorem w_inc {i b : Int32} {k : Nat} (h : ¬ b ≤ i) (hm : (b.toInt - i.toInt).toNat < k + 1) : (b.toInt - (i + (1 : Int32)).toInt).toNat < k := by
  have h1 := Int32.not_le.mp h
  have h2 := Int32.lt_iff_toInt_lt.mp h1
  rw [w_p1 h1]
  omega
theorem w_natlt (x : Int32) : x.toNatClampNeg < 2 ^ 31 := by
  have h := Int32.toInt_lt x
  unfold Int32.toNatClampNeg
  omega
/-! an array that is being laid over from the left -/
def w_cp {α : Type} (f g : Nat → α) (i : Nat) : Nat → α := fun j => if j < i then f j else g j
theorem w_cp0 {α : Type} (f g : Nat → α) : g = w_cp f g 0 := funext fun j => by simp [w_cp]
theorem w_cp1 (f g : Nat → Int32) (i : Nat) : upd (w_cp f g i) i (f i) = w_cp f g (i + 1) := funext fun j => by
  unfold upd w_cp
  by_cases h : j = i
  · subst h
    simp
  · by_cases h2 : j < i
    · simp [h, h2, Nat.lt_succ_of_lt h2]
    · simp [h, h2, show ¬ j < i + 1 by omega]
theorem w_cp1L (f g : Nat → Int64) (i : Nat) : vp_updL (w_cp f g i) i (f i) = w_cp f g (i + 1) := funext fun j => by
  unfold vp_updL w_cp
  by_cases h : j = i
  · subst h
    simp
  · by_cases h2 : j < i
    · simp [h, h2, Nat.lt_succ_of_lt h2]
    · simp [h, h2, show ¬ j < i + 1 by omega]
theorem w_cpn {α : Type} (f g : Nat → α) {i n : Nat} (h : n ≤ i) : ∀ j, j < n → w_cp f g i j = f j := fun j hj => by
  unfold w_cp
  rw [if_pos (Nat.lt_of_lt_of_le hj h)]
theorem w_rd {f : Nat → Int64} {j k : Nat} {w v : Int64} (hk : j ≠ k) (h : f j = v) : vp_updL f k w j = v := by
  unfold vp_updL
  rw [if_neg hk]
  exact h
theorem w_rds (f : Nat → Int64) (k : Nat) (w : Int64) : vp_updL f k w k = w := by
  unfold vp_updL
  rw [if_pos rfl]
/-- n places of a row, laid from a on to b on -/
def w_ms (f : Nat → Int64) (a b n : Nat) : Nat → Int64 := fun j => if b ≤ j ∧ j < b + n then f (a + (j - b)) else f j
theorem w_ms0 (f : Nat → Int64) (a b : Nat) : f = w_ms f a b 0 := funext fun j => by
  unfold w_ms
  rw [if_neg (by omega)]
theorem w_ms1 (f : Nat → Int64) {a b n : Nat} (h : b ≤ a ∨ a + n < b) : vp_updL (w_ms f a b n) (b + n) (w_ms f a b n (a + n)) = w_ms f a b (n + 1) := funext fun j => by
  unfold vp_updL w_ms
  by_cases hj : j = b + n
  · subst hj
    rw [if_pos rfl, if_neg (by omega), if_pos (by omega), Nat.add_sub_cancel_left]
  · rw [if_neg hj]
    by_cases h2 : b ≤ j ∧ j < b + n
    · rw [if_pos h2, if_pos (by omega)]
    · rw [if_neg h2, if_neg (by omega)]
/-! cells that say the same -/
def sim (w w' : va_W) : Prop := (∀ D cl H, va_P D cl w H → va_P D cl w' H) ∧ w.map Prod.fst = w'.map Prod.fst
theorem sim.r {w : va_W} : sim w w := ⟨fun _ _ _ h => h, rfl⟩
theorem sim.a {a a' b b' : va_W} (h1 : sim a a') (h2 : sim b b') : sim (a ++ b) (a' ++ b') := by
  refine ⟨fun D cl H h => ?_, by rw [List.map_append, List.map_append, h1.2, h2.2]⟩
  have hm := w_P.mp h
  exact va_P.app (h1.1 D cl H (w_P.mpr fun q hq => hm q (List.mem_append_left _ hq))) (h2.1 D cl H (w_P.mpr fun q hq => hm q (List.mem_append_right _ hq)))
theorem sim.d {A : Nat → Prop} {w w' : va_W} (h : sim w w') (hD : va_D A w) : va_D A w' := by
  obtain ⟨h1, h2⟩ := w_D.mp hD
  have e1 : (w.map Prod.fst).Pairwise (· ≠ ·) := List.pairwise_map.mpr h1
  rw [h.2] at e1
  refine w_D.mpr ⟨List.pairwise_map.mp e1, fun q hq => ?_⟩
  have : q.1 ∈ w.map Prod.fst := by rw [h.2]; exact List.mem_map.mpr ⟨q, hq, rfl⟩
  obtain ⟨q2, hq2, e⟩ := List.mem_map.mp this
  rw [← e]
  exact h2 q2 hq2
theorem sim.c {a : Nat} {e e' : va_E} (h : ∀ D cl H, va_at D cl (a, e) H → va_at D cl (a, e') H) : sim [(a, e)] [(a, e')] := by
  refine ⟨fun D cl H hP => w_P.mpr fun q hq => ?_, rfl⟩
  cases List.mem_singleton.mp hq
  exact h D cl H (w_P.mp hP _ List.mem_cons_self)
theorem sim.i {a n : Nat} {c : ClassId} {f g : Nat → Int32} (h : ∀ j, j < n → f j = g j) : sim [(a, .inl (c, n, .inl f))] [(a, .inl (c, n, .inl g))] := sim.c fun D cl H hq => by
  have e : vp_cell c (n, .inl f) = vp_cell c (n, .inl g) := by
    rw [vp_cell_i, vp_cell_i]
    unfold arrV
    congr 1
    exact congrArg Array.ofFn (funext fun j => congrArg Value.int (h j.1 j.2))
  show H[a]? = some (vp_cell c (n, .inl g))
  rw [← e]
  exact hq
theorem sim.l {a n : Nat} {c : ClassId} {f g : Nat → Int64} (h : ∀ j, j < n → f j = g j) : sim [(a, .inl (c, n, .inr (.inl f)))] [(a, .inl (c, n, .inr (.inl g)))] := sim.c fun D cl H hq => by
  have e : vp_cell c (n, .inr (.inl f)) = vp_cell c (n, .inr (.inl g)) := by
    rw [vp_cell_l, vp_cell_l]
    unfold arrV
    congr 1
    exact congrArg Array.ofFn (funext fun j => congrArg Value.long (h j.1 j.2))
  show H[a]? = some (vp_cell c (n, .inr (.inl g)))
  rw [← e]
  exact hq
/-! links between nest mates -/
def nL : List (String × Nat × MethodName × String) := [(RX8, 21, yX10_setAll, "HeatPumpPlant"), (RX8, 25, yX10_replace, "HeatPumpPlant"), (RX3, 22, yX10_replace, "HeatPumpPlant"), (RX5, 55, yX2_init, "HeatPumpPlant"), (RX5, 64, yX10_copyRow, "HeatPumpPlant"), (RX8, 29, yX10_copyRow, "HeatPumpPlant"), (RX3, 26, yX10_copyRow, "HeatPumpPlant"), (RX6, 34, yX10_copyRow, "HeatPumpPlant"), (RX0, 21, yX10_copyRow, "HeatPumpPlant"), (RX7, 28, yX10_replace, "HeatPumpPlant"), (RX7, 22, yX10_elementOr, "HeatPumpPlant"), (RX5, 95, yX10_elementOr, "HeatPumpPlant"), (RX5, 101, yX10_div, "HeatPumpPlant"), (RX3, 34, yX10_elementOr, "HeatPumpPlant"), (RX3, 46, yX10_div, "HeatPumpPlant"), (RX1, 23, yX10_div, "HeatPumpPlant"), (RX6, 67, yX10_elementOr, "HeatPumpPlant"), (RX6, 71, yX10_replace, "HeatPumpPlant"), (RX0, 53, yX10_elementOr, "HeatPumpPlant"), (RX0, 57, yX10_replace, "HeatPumpPlant"), (RX9, 19, yX10_replace, "HeatPumpPlant"), (RX9, 74, yX10_elementOr, "HeatPumpPlant")]
def nW (U : State) : Prop := ∀ q ∈ nL, va_Nw (.methodLinkNest q.1 q.2.1 q.2.2.1 q.2.2.2) U
abbrev tyL (cI cL cP : ClassId) : List (ClassId × FieldType) := [(cI, .int), (cL, .long), (cP, .object "HeatPumpPlant$Plant")]
def kQ (D : va_G) (cI cL cP : ClassId) (U : State) : Prop := va_K D vwCl (tyL cI cL cP) U ∧ nW U
theorem kQ.warm {D : va_G} {cI cL cP : ClassId} {s U : State} (hW : s.WarmedH U.vm) (h : kQ D cI cL cP s) : kQ D cI cL cP U := ⟨va_K.moved hW.alike h.1, fun q hq => va_Nw.warmM hW (h.2 q hq)⟩
theorem kQ.call {D : va_G} {cI cL cP : ClassId} {U : State} (a : Array Value) (g : JFrame) (mk : MethodId) (h : kQ D cI cL cP U) : kQ D cI cL cP (U.calling g mk a) := ⟨va_K.moved (u := U) (U := U.calling g mk a) (Vm.Alike.refl U.vm) h.1, fun q hq => va_Nw.same rfl (rfl : U.vm = (U.calling g mk a).vm) (h.2 q hq)⟩
/-! what a contract asks: R: the heap stays; M: the world may change -/
def pR (D : va_G) (cI cL cP : ClassId) (H0 : Heap) (ws : va_W) : State → Prop := fun U => U.heap = H0 ∧ va_P D vwCl ws U.heap ∧ kQ D cI cL cP U
def pM (D : va_G) (cI cL cP : ClassId) (sz : Nat) (ws : va_W) : State → Prop := fun U => U.heap.size = sz ∧ va_P D vwCl ws U.heap ∧ kQ D cI cL cP U ∧ va_D (fun _ => True) ws
theorem pR_blind {D : va_G} {cI cL cP : ClassId} {H0 : Heap} {ws : va_W} {av : List Value} : FrameBlind (va_Pc av (pR D cI cL cP H0 ws)) := fun a _ g mk q => ⟨q.1, q.2.1, q.2.2.1, q.2.2.2.call a g mk⟩
theorem pM_blind {D : va_G} {cI cL cP : ClassId} {sz : Nat} {ws : va_W} {av : List Value} : FrameBlind (va_Pc av (pM D cI cL cP sz ws)) := fun a _ g mk q => ⟨q.1, q.2.1, q.2.2.1, q.2.2.2.1.call a g mk, q.2.2.2.2⟩
def qE (H0 : Heap) : Unit → State → Prop := fun _ t => t.heap = H0
def nF : Nat → Prop := fun _ => False
def qW (D : va_G) (A : Nat → Prop) {S : Type} (G : S → va_W) : S → State → Prop := fun w t => va_P D vwCl (G w) t.heap ∧ va_D A (G w)
section WC
variable {p : Program} {l : Launch} {e : Env} {R : Room} {s : State} {m : MethodId} {args : Array Value} {below : List Frame} {meth : Method} {c : Code} {H : Heap} {locs : List Loc} {cells slots : Nat} {Q : State → Prop}
variable {y : MethodName} {bytes cc : ByteArray} {maxL nl n index pc : Nat} {ret : Option FieldType} {ws : List Cond} {rm : Room} {Ts : List Cond} {own C host : String} {b : Addr} {As rest st : List Value} {ls : Array Slot}
variable {D : va_G} {cI cL cP : ClassId} {A0 : Nat → Prop} {H0 : Heap} {wsc : va_W} {av : Array Value}
theorem w_topn {x : Int32} (k : Nat) (h : x = nI k) (kk : W p l e R s m args below meth c H locs cells slots Q (F0 m pc ls (.int (nI k) :: rest))) : W p l e R s m args below meth c H locs cells slots Q (F0 m pc ls (.int x :: rest)) := by rw [h]; exact kk
theorem w_topL {x v : Int64} (h : x = v) (kk : W p l e R s m args below meth c H locs cells slots Q (F0 m pc ls (.long v :: rest))) : W p l e R s m args below meth c H locs cells slots Q (F0 m pc ls (.long x :: rest)) := by rw [h]; exact kk
/-! calls that leave the heap -/
theorem c_Ri {F : Int32} (hr : va_Run p l e R s m args below meth c H locs cells slots 0 0 (F0 m pc ls st) rest (va_Qi (fun r (_ : Unit) => r = F) (qE H) nF av) nF) (hS : va_S A0 H0 H locs)
    (kk : ∀ locs1, va_S A0 H0 H locs1 → W p l e R s m args below meth c H locs1 cells slots Q (F0 m (pc + 3) ls (.int F :: rest))) : W p l e R s m args below meth c H locs cells slots Q (F0 m pc ls st) :=
  va_calli hr hS (fun _ _ h => h.elim) (fun _ h => h.elim) (fun r u t H1 locs1 ht _ hw hB _ _ hS1 => by
    have hw : r = F := hw
    have e : H1 = H := ht.symm.trans hB
    subst hw
    subst e
    exact kk locs1 hS1)
theorem c_Rl {F : Int64} (hr : va_Run p l e R s m args below meth c H locs cells slots 0 0 (F0 m pc ls st) rest (va_Ql (fun r (_ : Unit) => r = F) (qE H) nF av) nF) (hS : va_S A0 H0 H locs)
    (kk : ∀ locs1, va_S A0 H0 H locs1 → W p l e R s m args below meth c H locs1 cells slots Q (F0 m (pc + 3) ls (.long F :: rest))) : W p l e R s m args below meth c H locs cells slots Q (F0 m pc ls st) :=
  va_calll hr hS (fun _ _ h => h.elim) (fun _ h => h.elim) (fun r u t H1 locs1 ht _ hw hB _ _ hS1 => by
    have hw : r = F := hw
    have e : H1 = H := ht.symm.trans hB
    subst hw
    subst e
    exact kk locs1 hS1)
theorem c_Rr {F : Nat} (hr : va_Run p l e R s m args below meth c H locs cells slots 0 0 (F0 m pc ls st) rest (va_Qr (fun (_ : Unit) => True) (fun _ a t => a = F ∧ t.heap = H) nF av) nF) (hS : va_S A0 H0 H locs)
    (kk : ∀ locs1, va_S A0 H0 H locs1 → W p l e R s m args below meth c H locs1 cells slots Q (F0 m (pc + 3) ls (.ref F :: rest))) : W p l e R s m args below meth c H locs cells slots Q (F0 m pc ls st) :=
  va_callr hr hS (fun _ _ h => h.elim) (fun _ h => h.elim) (fun u ra t H1 locs1 ht _ hw hB _ _ hS1 => by
    obtain ⟨e1, e2⟩ := hB
    have e : H1 = H := ht.symm.trans e2
    subst e1
    subst e
    exact kk locs1 hS1)
/-! calls that change the world -/
theorem c_Mi {S : Type} {F : Int32 × S} {G1 : S → List va_W} {Gs Gc Gr : List va_W} {Gs' : Int32 × S → List va_W} (hr : va_Run p l e R s m args below meth c H locs cells slots 0 0 (F0 m pc ls st) rest (va_Qi (fun r w => (r, w) = F) (qW D (va_A (wF Gc) H.size) (fun w => wF (G1 w))) (va_A (wF Gc) H.size) av) (va_A (wF Gc) H.size)) (hS : va_S A0 H0 H locs) (hA : ∀ q, H0.size ≤ q → A0 q)
    (hP : va_P D vwCl (wF Gs) H) (hD : va_D A0 (wF Gs)) (isC isR isO : List Nat) (hC : isC.map (fun i => Gs[i]?) = Gc.map some) (hR : isR.map (fun i => Gs[i]?) = Gr.map some) (hn1 : va_nd isC = true) (hn : va_nd (isC ++ isR) = true) (hno : va_nd isO = true) (hO : ∀ z, isO.map (fun i => (G1 z.2 ++ Gr)[i]?) = (Gs' z).map some)
    (kk : ∀ z H1 locs1, z = F → va_P D vwCl (wF (Gs' z)) H1 → va_D A0 (wF (Gs' z)) → va_S A0 H0 H1 locs1 → W p l e R s m args below meth c H1 locs1 cells slots Q (F0 m (pc + 3) ls (.int z.1 :: rest))) : W p l e R s m args below meth c H locs cells slots Q (F0 m pc ls st) := by
  have hF := w_free (w_gsub hD isC hn1 hC) hS hA
  refine va_calli hr hS (fun q _ h => hF q h) hF (fun r w t H1 locs1 ht _ hw hB _ hk1 hS1 => ?_)
  have hw : (r, w) = F := hw
  subst hw
  obtain ⟨hP1, hD1⟩ := hB
  rw [ht] at hP1
  obtain ⟨h1, h2⟩ := w_gjoin hP hD isC isR isO hC hR hn hno (hO (r, w)) hk1 hF hP1 hD1
  exact kk _ H1 locs1 rfl h1 h2 hS1
theorem c_Mz {S : Type} {F : Bool × S} {G1 : S → List va_W} {Gs Gc Gr : List va_W} {Gs' : Bool × S → List va_W} (hr : va_Run p l e R s m args below meth c H locs cells slots 0 0 (F0 m pc ls st) rest (va_Qi (fun r w => (r, w) = (bI F.1, F.2)) (qW D (va_A (wF Gc) H.size) (fun w => wF (G1 w))) (va_A (wF Gc) H.size) av) (va_A (wF Gc) H.size)) (hS : va_S A0 H0 H locs) (hA : ∀ q, H0.size ≤ q → A0 q)
    (hP : va_P D vwCl (wF Gs) H) (hD : va_D A0 (wF Gs)) (isC isR isO : List Nat) (hC : isC.map (fun i => Gs[i]?) = Gc.map some) (hR : isR.map (fun i => Gs[i]?) = Gr.map some) (hn1 : va_nd isC = true) (hn : va_nd (isC ++ isR) = true) (hno : va_nd isO = true) (hO : ∀ z, isO.map (fun i => (G1 z.2 ++ Gr)[i]?) = (Gs' z).map some)
    (kk : ∀ z H1 locs1, z = F → va_P D vwCl (wF (Gs' z)) H1 → va_D A0 (wF (Gs' z)) → va_S A0 H0 H1 locs1 → W p l e R s m args below meth c H1 locs1 cells slots Q (F0 m (pc + 3) ls (.int (bI z.1) :: rest))) : W p l e R s m args below meth c H locs cells slots Q (F0 m pc ls st) := by
  have hF := w_free (w_gsub hD isC hn1 hC) hS hA
  refine va_calli hr hS (fun q _ h => hF q h) hF (fun r w t H1 locs1 ht _ hw hB _ hk1 hS1 => ?_)
  have hw : (r, w) = (bI F.1, F.2) := hw
  obtain ⟨rfl, rfl⟩ := Prod.mk.inj hw
  obtain ⟨hP1, hD1⟩ := hB
  rw [ht] at hP1
  obtain ⟨h1, h2⟩ := w_gjoin hP hD isC isR isO hC hR hn hno (hO F) hk1 hF hP1 hD1
  exact kk _ H1 locs1 rfl h1 h2 hS1
theorem c_Ml {S : Type} {F : Int64 × S} {G1 : S → List va_W} {Gs Gc Gr : List va_W} {Gs' : Int64 × S → List va_W} (hr : va_Run p l e R s m args below meth c H locs cells slots 0 0 (F0 m pc ls st) rest (va_Ql (fun r w => (r, w) = F) (qW D (va_A (wF Gc) H.size) (fun w => wF (G1 w))) (va_A (wF Gc) H.size) av) (va_A (wF Gc) H.size)) (hS : va_S A0 H0 H locs) (hA : ∀ q, H0.size ≤ q → A0 q)
    (hP : va_P D vwCl (wF Gs) H) (hD : va_D A0 (wF Gs)) (isC isR isO : List Nat) (hC : isC.map (fun i => Gs[i]?) = Gc.map some) (hR : isR.map (fun i => Gs[i]?) = Gr.map some) (hn1 : va_nd isC = true) (hn : va_nd (isC ++ isR) = true) (hno : va_nd isO = true) (hO : ∀ z, isO.map (fun i => (G1 z.2 ++ Gr)[i]?) = (Gs' z).map some)
    (kk : ∀ z H1 locs1, z = F → va_P D vwCl (wF (Gs' z)) H1 → va_D A0 (wF (Gs' z)) → va_S A0 H0 H1 locs1 → W p l e R s m args below meth c H1 locs1 cells slots Q (F0 m (pc + 3) ls (.long z.1 :: rest))) : W p l e R s m args below meth c H locs cells slots Q (F0 m pc ls st) := by
  have hF := w_free (w_gsub hD isC hn1 hC) hS hA
  refine va_calll hr hS (fun q _ h => hF q h) hF (fun r w t H1 locs1 ht _ hw hB _ hk1 hS1 => ?_)
  have hw : (r, w) = F := hw
  subst hw
  obtain ⟨hP1, hD1⟩ := hB
  rw [ht] at hP1
  obtain ⟨h1, h2⟩ := w_gjoin hP hD isC isR isO hC hR hn hno (hO (r, w)) hk1 hF hP1 hD1
  exact kk _ H1 locs1 rfl h1 h2 hS1
theorem c_Mv {S : Type} {F : S} {G1 : S → List va_W} {Gs Gc Gr : List va_W} {Gs' : S → List va_W} (hr : va_Run p l e R s m args below meth c H locs cells slots 0 0 (F0 m pc ls st) rest (va_Qv (fun w => w = F) (qW D (va_A (wF Gc) H.size) (fun w => wF (G1 w))) (va_A (wF Gc) H.size) av) (va_A (wF Gc) H.size)) (hS : va_S A0 H0 H locs) (hA : ∀ q, H0.size ≤ q → A0 q)
    (hP : va_P D vwCl (wF Gs) H) (hD : va_D A0 (wF Gs)) (isC isR isO : List Nat) (hC : isC.map (fun i => Gs[i]?) = Gc.map some) (hR : isR.map (fun i => Gs[i]?) = Gr.map some) (hn1 : va_nd isC = true) (hn : va_nd (isC ++ isR) = true) (hno : va_nd isO = true) (hO : ∀ z, isO.map (fun i => (G1 z ++ Gr)[i]?) = (Gs' z).map some)
    (kk : ∀ z H1 locs1, z = F → va_P D vwCl (wF (Gs' z)) H1 → va_D A0 (wF (Gs' z)) → va_S A0 H0 H1 locs1 → W p l e R s m args below meth c H1 locs1 cells slots Q (F0 m (pc + 3) ls rest)) : W p l e R s m args below meth c H locs cells slots Q (F0 m pc ls st) := by
  have hF := w_free (w_gsub hD isC hn1 hC) hS hA
  refine va_callv hr hS (fun q _ h => hF q h) hF (fun w t H1 locs1 ht _ hw hB _ hk1 hS1 => ?_)
  have hw : w = F := hw
  subst hw
  obtain ⟨hP1, hD1⟩ := hB
  rw [ht] at hP1
  obtain ⟨h1, h2⟩ := w_gjoin hP hD isC isR isO hC hR hn hno (hO _) hk1 hF hP1 hD1
  exact kk _ H1 locs1 rfl h1 h2 hS1
/-! what a call hands in -/
theorem preR_S (hQ : kQ D cI cL cP s) (hP : va_P D vwCl wsc H) : PreS s H (va_Pc As (pR D cI cL cP H wsc)) As := ⟨pR_blind, fun U hU hW => ⟨rfl, hU, by rw [hU]; exact hP, hQ.warm hW⟩⟩
theorem preR_V (hQ : kQ D cI cL cP s) (hP : va_P D vwCl wsc H) {q : vw_C} {fs : List Value} {q0 ci : Nat} (hc : vwCl[ci]? = some q) (he : wsc[q0]? = some (b, .inr (ci, fs))) : PreV s H q.1 b (va_Pc (.ref b :: As) (pR D cI cL cP H wsc)) As := ⟨pR_blind, va_recv hQ.1 hP hc he, fun U hU hW => ⟨rfl, hU, by rw [hU]; exact hP, hQ.warm hW⟩⟩
theorem preM_S (hQ : kQ D cI cL cP s) (hP : va_P D vwCl wsc H) (hD : va_D A0 wsc) : PreS s H (va_Pc As (pM D cI cL cP H.size wsc)) As := ⟨pM_blind, fun U hU hW => ⟨rfl, by rw [hU], by rw [hU]; exact hP, hQ.warm hW, hD.weaken (fun _ _ _ _ => trivial)⟩⟩
theorem preM_V (hQ : kQ D cI cL cP s) (hP : va_P D vwCl wsc H) (hD : va_D A0 wsc) {q : vw_C} {fs : List Value} {q0 ci : Nat} (hc : vwCl[ci]? = some q) (he : wsc[q0]? = some (b, .inr (ci, fs))) : PreV s H q.1 b (va_Pc (.ref b :: As) (pM D cI cL cP H.size wsc)) As := ⟨pM_blind, va_recv hQ.1 hP hc he, fun U hU hW => ⟨rfl, by rw [hU], by rw [hU]; exact hP, hQ.warm hW, hD.weaken (fun _ _ _ _ => trivial)⟩⟩
/-! a compare of longs and its branch -/
theorem w_llt (hx : p.tables.exec = Jvm.exec) (hb : c.code = cc) {x y : Int64} {off : Int} {tgt : Nat} (h1 : decode cc pc = .ok (.lcmp, 1)) (h2 : decode cc (pc + 1) = .ok (.ifCond .lt off, 3)) (ht : ((pc + 1 : Nat) : Int) + off = (tgt : Int)) (kt : x < y → W p l e R s m args below meth c H locs cells slots Q (F0 m tgt ls rest)) (kf : ¬ x < y → W p l e R s m args below meth c H locs cells slots Q (F0 m (pc + 4) ls rest)) : W p l e R s m args below meth c H locs cells slots Q (F0 m pc ls (.long y :: .long x :: rest)) :=
  W.lcmp hx hb h1 (lv_if_lt hx hb h2 ht (fun h => kt ((lg_cmp_lt x y).mp h)) (fun h => kf (fun q => h ((lg_cmp_lt x y).mpr q))))
theorem w_lge (hx : p.tables.exec = Jvm.exec) (hb : c.code = cc) {x y : Int64} {off : Int} {tgt : Nat} (h1 : decode cc pc = .ok (.lcmp, 1)) (h2 : decode cc (pc + 1) = .ok (.ifCond .ge off, 3)) (ht : ((pc + 1 : Nat) : Int) + off = (tgt : Int)) (kt : y ≤ x → W p l e R s m args below meth c H locs cells slots Q (F0 m tgt ls rest)) (kf : ¬ y ≤ x → W p l e R s m args below meth c H locs cells slots Q (F0 m (pc + 4) ls rest)) : W p l e R s m args below meth c H locs cells slots Q (F0 m pc ls (.long y :: .long x :: rest)) :=
  W.lcmp hx hb h1 (lv_if_ge hx hb h2 ht (fun h => kt ((lg_cmp_ge x y).mp h)) (fun h => kf (fun q => h ((lg_cmp_ge x y).mpr q))))
theorem w_lgt (hx : p.tables.exec = Jvm.exec) (hb : c.code = cc) {x y : Int64} {off : Int} {tgt : Nat} (h1 : decode cc pc = .ok (.lcmp, 1)) (h2 : decode cc (pc + 1) = .ok (.ifCond .gt off, 3)) (ht : ((pc + 1 : Nat) : Int) + off = (tgt : Int)) (kt : y < x → W p l e R s m args below meth c H locs cells slots Q (F0 m tgt ls rest)) (kf : ¬ y < x → W p l e R s m args below meth c H locs cells slots Q (F0 m (pc + 4) ls rest)) : W p l e R s m args below meth c H locs cells slots Q (F0 m pc ls (.long y :: .long x :: rest)) :=
  W.lcmp hx hb h1 (lv_if_gt hx hb h2 ht (fun h => kt ((lg_cmp_gt x y).mp h)) (fun h => kf (fun q => h ((lg_cmp_gt x y).mpr q))))
theorem w_lle (hx : p.tables.exec = Jvm.exec) (hb : c.code = cc) {x y : Int64} {off : Int} {tgt : Nat} (h1 : decode cc pc = .ok (.lcmp, 1)) (h2 : decode cc (pc + 1) = .ok (.ifCond .le off, 3)) (ht : ((pc + 1 : Nat) : Int) + off = (tgt : Int)) (kt : x ≤ y → W p l e R s m args below meth c H locs cells slots Q (F0 m tgt ls rest)) (kf : ¬ x ≤ y → W p l e R s m args below meth c H locs cells slots Q (F0 m (pc + 4) ls rest)) : W p l e R s m args below meth c H locs cells slots Q (F0 m pc ls (.long y :: .long x :: rest)) :=
  W.lcmp hx hb h1 (lv_if_le hx hb h2 ht (fun h => kt ((lg_cmp_le x y).mp h)) (fun h => kf (fun q => h ((lg_cmp_le x y).mpr q))))
theorem w_leq (hx : p.tables.exec = Jvm.exec) (hb : c.code = cc) {x y : Int64} {off : Int} {tgt : Nat} (h1 : decode cc pc = .ok (.lcmp, 1)) (h2 : decode cc (pc + 1) = .ok (.ifCond .eq off, 3)) (ht : ((pc + 1 : Nat) : Int) + off = (tgt : Int)) (kt : x = y → W p l e R s m args below meth c H locs cells slots Q (F0 m tgt ls rest)) (kf : ¬ x = y → W p l e R s m args below meth c H locs cells slots Q (F0 m (pc + 4) ls rest)) : W p l e R s m args below meth c H locs cells slots Q (F0 m pc ls (.long y :: .long x :: rest)) :=
  W.lcmp hx hb h1 (lv_if_eq hx hb h2 ht (fun h => kt ((lg_cmp_eq x y).mp h)) (fun h => kf (fun q => h ((lg_cmp_eq x y).mpr q))))
theorem w_lne (hx : p.tables.exec = Jvm.exec) (hb : c.code = cc) {x y : Int64} {off : Int} {tgt : Nat} (h1 : decode cc pc = .ok (.lcmp, 1)) (h2 : decode cc (pc + 1) = .ok (.ifCond .ne off, 3)) (ht : ((pc + 1 : Nat) : Int) + off = (tgt : Int)) (kt : ¬ x = y → W p l e R s m args below meth c H locs cells slots Q (F0 m tgt ls rest)) (kf : x = y → W p l e R s m args below meth c H locs cells slots Q (F0 m (pc + 4) ls rest)) : W p l e R s m args below meth c H locs cells slots Q (F0 m pc ls (.long y :: .long x :: rest)) :=
  W.lcmp hx hb h1 (lv_if_ne hx hb h2 ht (fun h => kt (fun q => h ((lg_cmp_eq x y).mpr q))) (fun h => kf ((lg_cmp_eq x y).mp h)))
/-! two ways that meet again with a number on the stack -/
theorem w_diaI {K : Prop} [Decidable K] (pcJ : Nat) (x y : Int32) (hs : (K → W p l e R s m args below meth c H locs cells slots Q (F0 m pcJ ls (.int x :: rest))) → (¬ K → W p l e R s m args below meth c H locs cells slots Q (F0 m pcJ ls (.int y :: rest))) → W p l e R s m args below meth c H locs cells slots Q (F0 m pc ls st)) (kk : W p l e R s m args below meth c H locs cells slots Q (F0 m pcJ ls (.int (if K then x else y) :: rest))) : W p l e R s m args below meth c H locs cells slots Q (F0 m pc ls st) :=
  hs (fun h => by rw [if_pos h] at kk; exact kk) (fun h => by rw [if_neg h] at kk; exact kk)
theorem w_diaL {K : Prop} [Decidable K] (pcJ : Nat) (x y : Int64) (hs : (K → W p l e R s m args below meth c H locs cells slots Q (F0 m pcJ ls (.long x :: rest))) → (¬ K → W p l e R s m args below meth c H locs cells slots Q (F0 m pcJ ls (.long y :: rest))) → W p l e R s m args below meth c H locs cells slots Q (F0 m pc ls st)) (kk : W p l e R s m args below meth c H locs cells slots Q (F0 m pcJ ls (.long (if K then x else y) :: rest))) : W p l e R s m args below meth c H locs cells slots Q (F0 m pc ls st) :=
  hs (fun h => by rw [if_pos h] at kk; exact kk) (fun h => by rw [if_neg h] at kk; exact kk)
theorem w_diaIS {A0 : Nat → Prop} {H0 : Heap} {locs : List Loc} (hS : va_S A0 H0 H locs) {K : Prop} [Decidable K] (pcJ : Nat) (x y : Int32) (hs : (K → ∀ locs, va_S A0 H0 H locs → W p l e R s m args below meth c H locs cells slots Q (F0 m pcJ ls (.int x :: rest))) → (¬ K → ∀ locs, va_S A0 H0 H locs → W p l e R s m args below meth c H locs cells slots Q (F0 m pcJ ls (.int y :: rest))) → W p l e R s m args below meth c H locs cells slots Q (F0 m pc ls st)) (kk : ∀ locs, va_S A0 H0 H locs → W p l e R s m args below meth c H locs cells slots Q (F0 m pcJ ls (.int (if K then x else y) :: rest))) : W p l e R s m args below meth c H locs cells slots Q (F0 m pc ls st) :=
  hs (fun h => by rw [if_pos h] at kk; exact kk) (fun h => by rw [if_neg h] at kk; exact kk)
theorem w_diaLS {A0 : Nat → Prop} {H0 : Heap} {locs : List Loc} (hS : va_S A0 H0 H locs) {K : Prop} [Decidable K] (pcJ : Nat) (x y : Int64) (hs : (K → ∀ locs, va_S A0 H0 H locs → W p l e R s m args below meth c H locs cells slots Q (F0 m pcJ ls (.long x :: rest))) → (¬ K → ∀ locs, va_S A0 H0 H locs → W p l e R s m args below meth c H locs cells slots Q (F0 m pcJ ls (.long y :: rest))) → W p l e R s m args below meth c H locs cells slots Q (F0 m pc ls st)) (kk : ∀ locs, va_S A0 H0 H locs → W p l e R s m args below meth c H locs cells slots Q (F0 m pcJ ls (.long (if K then x else y) :: rest))) : W p l e R s m args below meth c H locs cells slots Q (F0 m pc ls st) :=
  hs (fun h => by rw [if_pos h] at kk; exact kk) (fun h => by rw [if_neg h] at kk; exact kk)
theorem w_diaB {K : Prop} [Decidable K] (pcJ : Nat) (hs : (K → W p l e R s m args below meth c H locs cells slots Q (F0 m pcJ ls (.int 1 :: rest))) → (¬ K → W p l e R s m args below meth c H locs cells slots Q (F0 m pcJ ls (.int 0 :: rest))) → W p l e R s m args below meth c H locs cells slots Q (F0 m pc ls st)) (kk : W p l e R s m args below meth c H locs cells slots Q (F0 m pcJ ls (.int (bI (decide K)) :: rest))) : W p l e R s m args below meth c H locs cells slots Q (F0 m pc ls st) :=
  hs (fun h => by rw [decide_eq_true h] at kk; exact kk) (fun h => by rw [decide_eq_false h] at kk; exact kk)
theorem w_diaN {K : Prop} [Decidable K] (pcJ : Nat) (hs : (K → W p l e R s m args below meth c H locs cells slots Q (F0 m pcJ ls (.int 0 :: rest))) → (¬ K → W p l e R s m args below meth c H locs cells slots Q (F0 m pcJ ls (.int 1 :: rest))) → W p l e R s m args below meth c H locs cells slots Q (F0 m pc ls st)) (kk : W p l e R s m args below meth c H locs cells slots Q (F0 m pcJ ls (.int (bI (!decide K)) :: rest))) : W p l e R s m args below meth c H locs cells slots Q (F0 m pc ls st) :=
  hs (fun h => by rw [decide_eq_true h] at kk; exact kk) (fun h => by rw [decide_eq_false h] at kk; exact kk)
variable {cl : List vw_C} {tys : List (ClassId × FieldType)} {wsx : va_W} {a : Nat}
theorem w_iald (hx : p.tables.exec = Jvm.exec) (hb : c.code = cc) (hK : va_K D cl tys s) (hP : va_P D cl wsx H) (q0 t0 : Nat) {cA : ClassId} {n : Nat} {f : Nat → Int32} (ha : wsx[q0]? = some (a, .inl (cA, n, .inl f))) (ht : tys[t0]? = some (cA, .int)) {i : Int32} {j : Nat} (hi : i = nI j) (hj : j < n) (hn : n < 2 ^ 31) (hdg : decode cc pc = .ok (.iaload, 1))
    (kk : W p l e R s m args below meth c H locs cells slots Q (F0 m (pc + 1) ls (.int (f j) :: rest))) : W p l e R s m args below meth c H locs cells slots Q (F0 m pc ls (.int i :: .ref a :: rest)) := by
  subst hi
  exact va_iald hx hb hK hP q0 t0 ha ht (vp_in_nI hj hn) hdg (by rw [nI_clamp (Nat.lt_trans hj hn)]; exact kk)
theorem w_lald (hx : p.tables.exec = Jvm.exec) (hb : c.code = cc) (hK : va_K D cl tys s) (hP : va_P D cl wsx H) (q0 t0 : Nat) {cA : ClassId} {n : Nat} {f : Nat → Int64} (ha : wsx[q0]? = some (a, .inl (cA, n, .inr (.inl f)))) (ht : tys[t0]? = some (cA, .long)) {i : Int32} {j : Nat} (hi : i = nI j) (hj : j < n) (hn : n < 2 ^ 31) (hdg : decode cc pc = .ok (.laload, 1))
    (kk : W p l e R s m args below meth c H locs cells slots Q (F0 m (pc + 1) ls (.long (f j) :: rest))) : W p l e R s m args below meth c H locs cells slots Q (F0 m pc ls (.int i :: .ref a :: rest)) := by
  subst hi
  exact va_lald hx hb hK hP q0 t0 ha ht (vp_in_nI hj hn) hdg (by rw [nI_clamp (Nat.lt_trans hj hn)]; exact kk)
theorem w_aald (hx : p.tables.exec = Jvm.exec) (hb : c.code = cc) (hK : va_K D cl tys s) (hP : va_P D cl wsx H) (q0 t0 : Nat) {cA : ClassId} {C : String} {n : Nat} {f : Nat → Option Nat} (ha : wsx[q0]? = some (a, .inl (cA, n, .inr (.inr (.inr (.inr f)))))) (ht : tys[t0]? = some (cA, .object C)) {i : Int32} {j : Nat} (hi : i = nI j) (hj : j < n) (hn : n < 2 ^ 31) (hdg : decode cc pc = .ok (.aaload, 1))
    (kk : W p l e R s m args below meth c H locs cells slots Q (F0 m (pc + 1) ls (va_rf (f j) :: rest))) : W p l e R s m args below meth c H locs cells slots Q (F0 m pc ls (.int i :: .ref a :: rest)) := by
  subst hi
  exact va_aldq hx hb hK hP q0 t0 ha ht (vp_in_nI hj hn) hdg (by rw [nI_clamp (Nat.lt_trans hj hn)]; exact kk)
theorem w_iast (hx : p.tables.exec = Jvm.exec) (hb : c.code = cc) (hK : va_K D cl tys s) (hP : va_P D cl wsx H) (hD : va_D A0 wsx) (hS : va_S A0 H0 H locs) (q0 t0 : Nat) {cA : ClassId} {n : Nat} {f : Nat → Int32} (ha : wsx[q0]? = some (a, .inl (cA, n, .inl f))) (ht : tys[t0]? = some (cA, .int)) {i x : Int32} {j : Nat} (hi : i = nI j) (hj : j < n) (hn : n < 2 ^ 31) (hdg : decode cc pc = .ok (.iastore, 1))
    (kk : ∀ (H1 : Heap) (locs1 : List Loc), va_P D cl (wsx.set q0 (a, .inl (cA, n, .inl (upd f j x)))) H1 → va_D A0 (wsx.set q0 (a, .inl (cA, n, .inl (upd f j x)))) → va_S A0 H0 H1 locs1 → W p l e R s m args below meth c H1 locs1 cells slots Q (F0 m (pc + 1) ls rest)) : W p l e R s m args below meth c H locs cells slots Q (F0 m pc ls (.int x :: .int i :: .ref a :: rest)) := by
  subst hi
  refine va_iast hx hb hK hP hD hS q0 t0 ha ht (vp_in_nI hj hn) hdg (fun H1 locs1 h1 h2 h3 => ?_)
  rw [nI_clamp (Nat.lt_trans hj hn)] at h1 h2
  exact kk H1 locs1 h1 h2 h3
theorem w_last (hx : p.tables.exec = Jvm.exec) (hb : c.code = cc) (hK : va_K D cl tys s) (hP : va_P D cl wsx H) (hD : va_D A0 wsx) (hS : va_S A0 H0 H locs) (q0 t0 : Nat) {cA : ClassId} {n : Nat} {f : Nat → Int64} (ha : wsx[q0]? = some (a, .inl (cA, n, .inr (.inl f)))) (ht : tys[t0]? = some (cA, .long)) {i : Int32} {x : Int64} {j : Nat} (hi : i = nI j) (hj : j < n) (hn : n < 2 ^ 31) (hdg : decode cc pc = .ok (.lastore, 1))
    (kk : ∀ (H1 : Heap) (locs1 : List Loc), va_P D cl (wsx.set q0 (a, .inl (cA, n, .inr (.inl (vp_updL f j x))))) H1 → va_D A0 (wsx.set q0 (a, .inl (cA, n, .inr (.inl (vp_updL f j x))))) → va_S A0 H0 H1 locs1 → W p l e R s m args below meth c H1 locs1 cells slots Q (F0 m (pc + 1) ls rest)) : W p l e R s m args below meth c H locs cells slots Q (F0 m pc ls (.long x :: .int i :: .ref a :: rest)) := by
  subst hi
  refine va_last hx hb hK hP hD hS q0 t0 ha ht (vp_in_nI hj hn) hdg (fun H1 locs1 h1 h2 h3 => ?_)
  rw [nI_clamp (Nat.lt_trans hj hn)] at h1 h2
  exact kk H1 locs1 h1 h2 h3
end WC
