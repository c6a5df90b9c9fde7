theorem wsX12_law_r1_in : ∀ w ∈ wsX12_law_r1, w ∈ lw_tbl := fun w h => (goodIn_p wsX12_law_r1 [38, 41] (by decide +kernel) (by decide +kernel) w h).1
theorem wsX12_law_r2_in : ∀ w ∈ wsX12_law_r2, w ∈ lw_tbl := fun w h => (goodIn_p wsX12_law_r2 [46] (by decide +kernel) (by decide +kernel) w h).1
theorem wsX12_law_r3_in : ∀ w ∈ wsX12_law_r3, w ∈ lw_tbl := fun w h => (goodIn_p wsX12_law_r3 [52, 67, 71] (by decide +kernel) (by decide +kernel) w h).1
