theorem wsX12_law_r10_in : ∀ w ∈ wsX12_law_r10, w ∈ lw_tbl := fun w h => (goodIn_p wsX12_law_r10 [428, 431, 435, 439, 443, 446] (by decide +kernel) (by decide +kernel) w h).1
theorem wsX12_law_r11_in : ∀ w ∈ wsX12_law_r11, w ∈ lw_tbl := fun w h => (goodIn_p wsX12_law_r11 [351, 450, 403, 619, 565] (by decide +kernel) (by decide +kernel) w h).1
theorem wsX12_law_r12_in : ∀ w ∈ wsX12_law_r12, w ∈ lw_tbl := fun w h => (goodIn_p wsX12_law_r12 [468, 573, 577, 569] (by decide +kernel) (by decide +kernel) w h).1
