theorem wsX12_law_r16_in : ∀ w ∈ wsX12_law_r16, w ∈ lw_tbl := fun w h => (goodIn_p wsX12_law_r16 [597, 601, 605, 613, 609] (by decide +kernel) (by decide +kernel) w h).1
theorem wsX12_law_r17_in : ∀ w ∈ wsX12_law_r17, w ∈ lw_tbl := fun w h => (goodIn_p wsX12_law_r17 [616, 463, 471, 476] (by decide +kernel) (by decide +kernel) w h).1
theorem wsX12_law_r18_in : ∀ w ∈ wsX12_law_r18, w ∈ lw_tbl := fun w h => (goodIn_p wsX12_law_r18 [541, 545, 549, 556] (by decide +kernel) (by decide +kernel) w h).1
