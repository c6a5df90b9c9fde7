theorem wsX12_law_r13_in : ∀ w ∈ wsX12_law_r13, w ∈ lw_tbl := fun w h => (goodIn_p wsX12_law_r13 [560, 480, 485, 517, 496, 521] (by decide +kernel) (by decide +kernel) w h).1
theorem wsX12_law_r14_in : ∀ w ∈ wsX12_law_r14, w ∈ lw_tbl := fun w h => (goodIn_p wsX12_law_r14 [525, 529, 510, 504, 535] (by decide +kernel) (by decide +kernel) w h).1
theorem wsX12_law_r15_in : ∀ w ∈ wsX12_law_r15, w ∈ lw_tbl := fun w h => (goodIn_p wsX12_law_r15 [489, 493, 500, 513, 581] (by decide +kernel) (by decide +kernel) w h).1
