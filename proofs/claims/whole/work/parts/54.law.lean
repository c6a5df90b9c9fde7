/-! the law: its world, and what holds on its way -/
def lG (cI cL cP : ClassId) (bx : Nat) (a a1 : Nat → Nat) (hi hb2 : Nat) (ca : Nat → Nat → Nat) (wt wb bm mr mt : Nat) (u u1 : PlS) (o k : Nat) (h : Nat → PlS) (st : ST) (x : MoN) (f : Nat → Int64) (g : SS) : List va_W := [gX bx (a 0) (a1 0) hi wt, gO (a 0) (a 1) (a 3) (a 7) (a 10) (a 12) (a 14) (a 16) (pT u), gS cI (a 1) (a 2) (pS u), gWe cI (a 3) (a 4) (a 5) (a 6) (pW u), gK cI (a 7) (a 8) (a 9) (pK u), gB cL (a 10) (a 11) (pB u), gP cI (a 12) (a 13) (pP u), gA cI (a 14) (a 15) (pA u), gC (a 16) (pC u), gO (a1 0) (a1 1) (a1 3) (a1 7) (a1 10) (a1 12) (a1 14) (a1 16) (pT u1), gS cI (a1 1) (a1 2) (pS u1), gWe cI (a1 3) (a1 4) (a1 5) (a1 6) (pW u1), gK cI (a1 7) (a1 8) (a1 9) (pK u1), gB cL (a1 10) (a1 11) (pB u1), gP cI (a1 12) (a1 13) (pP u1), gA cI (a1 14) (a1 15) (pA u1), gC (a1 16) (pC u1), gH cP hi hb2 ca ((nI o), (nI k)), gQ cI cL (ca 0) (h 0), gQ cI cL (ca 1) (h 1), gQ cI cL (ca 2) (h 2), gQ cI cL (ca 3) (h 3), gT cI wt wb st, gN bm mr mt x, gR cL mr f, gI cI mt 100 g]
def lwC (p : Program) (s : State) (m : MethodId) (c : Code) (D : va_G) (cI cL cP : ClassId) (b L : Nat) (xs : Nat → Int32) : Prop := p.tables.exec = Jvm.exec ∧ c.code = cL_law ∧ c.maxLocals = 8 ∧ s.vm.findClass RL = some m.cls ∧ (∀ w ∈ wsL_law, w.before #[Value.ref b] s = true) ∧ va_X b L xs s s.heap ∧ b < s.heap.size ∧ kQ D cI cL cP s ∧ zS (fun q : Nat => s.heap.size ≤ q) s s.heap
theorem rM_f {u : PlS} {o k : Nat} {h : Nat → PlS} {st : ST} {x : MoN} {f : Nat → Int64} {g : SS} (R : rM u o k h st x f g) : o < 4 ∧ k ≤ 4 ∧ x.1 ≤ 4 ∧ x.2.1 ≤ 100 ∧ mP f ∧ (f 91).toInt ≤ 100000 ∧ ¬ f 81 = 0 ∧ (f 68).toInt ≤ 6 ∧ 1 ≤ (f 68).toInt := by
  obtain ⟨⟨hs, hd, hT, hM⟩, -, ⟨h1, h2, h3⟩, -, -, h4, -⟩ := R
  obtain ⟨-, -, g3, -, ⟨k1, k2, k3, -⟩, g6, -, g8, -, g10⟩ := hs
  have e68 := ar_c k1
  have e91 := ar_c (rg_12 hd)
  have e81 := ar_c g6
  have n81 : ¬ f 81 = 0 := fun e => by
    rw [e, show (0 : Int64).toInt = 0 from by decide] at e81
    have := g10.1
    omega
  refine ⟨h1, h2, by omega, h4, ⟨⟨by omega, by omega⟩, fun j hj => ?_, n81, by omega⟩, by omega, n81, by omega, by omega⟩
  rw [ar_c (g3 j hj)]
  exact g8.2.1 j hj
section LW
variable {p : Program} {l : Launch} {e : Env} {R : Room} {s : State} {m : MethodId} {args : Array Value} {below : List Frame} {meth : Method} {c : Code} {H : Heap} {locs : List Loc} {cells slots : Nat} {Q : State → Prop} {cc : ByteArray} {pc : Nat} {ls : Array Slot} {rest : List Value} {A : Nat → Prop} {H0 : Heap}
theorem w_sld (hexec : p.tables.exec = Jvm.exec) (hb : c.code = cc) {b L : Nat} {xs : Nat → Int32} (hX : va_X b L xs s H0) (hbl : b < H0.size) (hbA : ¬ A b) (hS : va_S A H0 H locs) {j : Nat} (hj : j < L) (hL : L < 2 ^ 31) (hdg : decode cc pc = .ok (.iaload, 1))
    (kk : W p l e R s m args below meth c H locs cells slots Q (F0 m (pc + 1) ls (.int (xs j) :: rest))) : W p l e R s m args below meth c H locs cells slots Q (F0 m pc ls (.int (nI j) :: .ref b :: rest)) :=
  va_sld hexec hb hX hbl hbA hS (vp_in_nI hj hL) hdg (by rw [nI_clamp (Nat.lt_trans hj hL)]; exact kk)
end LW
