theorem wsX12_law_r25_in : ∀ w ∈ wsX12_law_r25, w ∈ lw_tbl := fun w h => (goodIn_p wsX12_law_r25 [748, 754, 759, 763, 768, 772] (by decide +kernel) (by decide +kernel) w h).1
theorem wsX12_law_r26_in : ∀ w ∈ wsX12_law_r26, w ∈ lw_tbl := fun w h => (goodIn_p wsX12_law_r26 [777, 781, 785, 344, 789, 792] (by decide +kernel) (by decide +kernel) w h).1
theorem wsX12_law_r27_in : ∀ w ∈ wsX12_law_r27, w ∈ lw_tbl := fun w h => (goodIn_p wsX12_law_r27 [800, 805, 808, 811, 818] (by decide +kernel) (by decide +kernel) w h).1
