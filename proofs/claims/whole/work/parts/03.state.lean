/-! what the cells hold -/
abbrev SS := Nat → Int32
abbrev SW := SS × SS × SS
abbrev SK := SS × SS × Int32
abbrev SB := (Nat → Int64) × Int32
abbrev SP := Int32 × Int32 × Int32 × Int32 × Int32 × Int32 × SS
abbrev SA := SS × Int32 × Int32 × Int32 × Int64 × Int64 × Int64 × Int64 × Int64 × Int64 × Int64
abbrev SC := Int32 × Int32 × Int32 × Int32 × Int32
abbrev PlS := SS × SW × SK × SB × SP × SA × SC × Int32
abbrev ST := SS × Int32 × Int32 × Int32 × Int32 × Int32 × Int32
abbrev MoS := (Nat → Int64) × SS × Int32 × Int32 × Int32 × Int32 × Int32 × Int32 × Int32 × Int32
def gI (cI : ClassId) (a n : Nat) (x : SS) : va_W := [(a, .inl (cI, n, .inl x))]
def gS (cI : ClassId) (a b : Nat) (x : SS) : va_W := [(a, .inr (7, [.ref b])), (b, .inl (cI, 17, .inl x))]
def gWe (cI : ClassId) (a b c d : Nat) (x : SW) : va_W := [(a, .inr (8, [.ref b, .ref c, .ref d])), (b, .inl (cI, 24, .inl x.1)), (c, .inl (cI, 24, .inl x.2.1)), (d, .inl (cI, 3, .inl x.2.2))]
def gK (cI : ClassId) (a b c : Nat) (x : SK) : va_W := [(a, .inr (3, [.ref b, .ref c, .int x.2.2])), (b, .inl (cI, 6, .inl x.1)), (c, .inl (cI, 6, .inl x.2.1))]
def gB (cL : ClassId) (a b : Nat) (x : SB) : va_W := [(a, .inr (1, [.ref b, .int x.2])), (b, .inl (cL, 4, .inr (.inl x.1)))]
def gP (cI : ClassId) (a b : Nat) (x : SP) : va_W := [(a, .inr (6, [.int x.1, .int x.2.1, .int x.2.2.1, .int x.2.2.2.1, .int x.2.2.2.2.1, .int x.2.2.2.2.2.1, .ref b])), (b, .inl (cI, 60, .inl x.2.2.2.2.2.2))]
def gA (cI : ClassId) (a b : Nat) (x : SA) : va_W := [(a, .inr (0, [.ref b, .int x.2.1, .int x.2.2.1, .int x.2.2.2.1, .long x.2.2.2.2.1, .long x.2.2.2.2.2.1, .long x.2.2.2.2.2.2.1, .long x.2.2.2.2.2.2.2.1, .long x.2.2.2.2.2.2.2.2.1, .long x.2.2.2.2.2.2.2.2.2.1, .long x.2.2.2.2.2.2.2.2.2.2])), (b, .inl (cI, 12, .inl x.1))]
def gC (a : Nat) (x : SC) : va_W := [(a, .inr (2, [.int x.1, .int x.2.1, .int x.2.2.1, .int x.2.2.2.1, .int x.2.2.2.2]))]
def gO (a b c d e f g h : Nat) (t : Int32) : va_W := [(a, .inr (5, [.ref b, .ref c, .ref d, .ref e, .ref f, .ref g, .ref h, .int t]))]
abbrev pS (u : PlS) : SS := u.1
abbrev pW (u : PlS) : SW := u.2.1
abbrev pK (u : PlS) : SK := u.2.2.1
abbrev pB (u : PlS) : SB := u.2.2.2.1
abbrev pP (u : PlS) : SP := u.2.2.2.2.1
abbrev pA (u : PlS) : SA := u.2.2.2.2.2.1
abbrev pC (u : PlS) : SC := u.2.2.2.2.2.2.1
abbrev pT (u : PlS) : Int32 := u.2.2.2.2.2.2.2
def pG (cI cL : ClassId) (a : Nat → Nat) (u : PlS) : List va_W := [gO (a 0) (a 1) (a 3) (a 7) (a 10) (a 12) (a 14) (a 16) (pT u), gS cI (a 1) (a 2) (pS u), gWe cI (a 3) (a 4) (a 5) (a 6) (pW u), gK cI (a 7) (a 8) (a 9) (pK u), gB cL (a 10) (a 11) (pB u), gP cI (a 12) (a 13) (pP u), gA cI (a 14) (a 15) (pA u), gC (a 16) (pC u)]
def gH (cP : ClassId) (a b : Nat) (c : Nat → Nat → Nat) (x : Int32 × Int32) : va_W := [(a, .inr (4, [.ref b, .int x.1, .int x.2])), (b, .inl (cP, 4, .inr (.inr (.inr (.inr (fun j => some (c j 0)))))))]
def gX (a p t h w : Nat) : va_W := [(a, .inr (10, [.ref p, .ref t, .ref h, .ref w]))]
def gT (cI : ClassId) (a b : Nat) (x : ST) : va_W := [(a, .inr (9, [.ref b, .int x.2.1, .int x.2.2.1, .int x.2.2.2.1, .int x.2.2.2.2.1, .int x.2.2.2.2.2.1, .int x.2.2.2.2.2.2])), (b, .inl (cI, 100, .inl x.1))]
def gM (cI cL : ClassId) (a b c : Nat) (x : MoS) : va_W := [(a, .inr (11, [.ref b, .int x.2.2.1, .ref c, .int x.2.2.2.1, .int x.2.2.2.2.1, .int x.2.2.2.2.2.1, .int x.2.2.2.2.2.2.1, .int x.2.2.2.2.2.2.2.1, .int x.2.2.2.2.2.2.2.2.1, .int x.2.2.2.2.2.2.2.2.2])), (b, .inl (cL, 1044, .inr (.inl x.1))), (c, .inl (cI, 100, .inl x.2.1))]
/-- an array's cell tells of its places alone -/
theorem w_cellI (cI : ClassId) (n : Nat) {f g : Nat → Int32} (h : ∀ j, j < n → f j = g j) : vp_cell cI (n, .inl f) = vp_cell cI (n, .inl g) := by
  rw [vp_cell_i, vp_cell_i]
  unfold arrV
  congr 1
  exact congrArg Array.ofFn (funext fun j => by rw [h j.1 j.2])
theorem w_cellL (cI : ClassId) (n : Nat) {f g : Nat → Int64} (h : ∀ j, j < n → f j = g j) : vp_cell cI (n, .inr (.inl f)) = vp_cell cI (n, .inr (.inl g)) := by
  rw [vp_cell_l, vp_cell_l]
  unfold arrV
  congr 1
  exact congrArg Array.ofFn (funext fun j => by rw [h j.1 j.2])
