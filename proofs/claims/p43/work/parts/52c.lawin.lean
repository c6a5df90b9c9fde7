theorem wsX12_law_r7_in : ∀ w ∈ wsX12_law_r7, w ∈ lw_tbl := fun w h => (goodIn_p wsX12_law_r7 [366, 371, 376, 380, 385] (by decide +kernel) (by decide +kernel) w h).1
theorem wsX12_law_r8_in : ∀ w ∈ wsX12_law_r8, w ∈ lw_tbl := fun w h => (goodIn_p wsX12_law_r8 [399, 391, 395] (by decide +kernel) (by decide +kernel) w h).1
theorem wsX12_law_r9_in : ∀ w ∈ wsX12_law_r9, w ∈ lw_tbl := fun w h => (goodIn_p wsX12_law_r9 [408, 412, 416, 420, 424] (by decide +kernel) (by decide +kernel) w h).1
