theorem law_true (L : Nat) (xs : Nat → Int32) : F12_law F5_init F5_init 0 0 (fun _ => F5_init) F9_init L xs = true := by
  sorry
