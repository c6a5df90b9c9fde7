theorem wsX12_law_r4_in : ∀ w ∈ wsX12_law_r4, w ∈ lw_tbl := fun w h => (goodIn_p wsX12_law_r4 [74, 97, 115, 120, 133] (by decide +kernel) (by decide +kernel) w h).1
theorem wsX12_law_r5_in : ∀ w ∈ wsX12_law_r5, w ∈ lw_tbl := fun w h => (goodIn_p wsX12_law_r5 [166, 224, 280, 300] (by decide +kernel) (by decide +kernel) w h).1
theorem wsX12_law_r6_in : ∀ w ∈ wsX12_law_r6, w ∈ lw_tbl := fun w h => (goodIn_p wsX12_law_r6 [455, 459, 355, 359, 362] (by decide +kernel) (by decide +kernel) w h).1
