theorem wsX12_law_r1_in : ∀ w ∈ wsX12_law_r1, w ∈ lw_tbl := fun w h => (goodIn_p wsX12_law_r1 [38, 41] (by decide +kernel) (by decide +kernel) w h).1
theorem wsX12_law_r2_in : ∀ w ∈ wsX12_law_r2, w ∈ lw_tbl := fun w h => (goodIn_p wsX12_law_r2 [46] (by decide +kernel) (by decide +kernel) w h).1
theorem wsX12_law_r3_in : ∀ w ∈ wsX12_law_r3, w ∈ lw_tbl := fun w h => (goodIn_p wsX12_law_r3 [52, 67, 71] (by decide +kernel) (by decide +kernel) w h).1
theorem wsX12_law_r4_in : ∀ w ∈ wsX12_law_r4, w ∈ lw_tbl := fun w h => (goodIn_p wsX12_law_r4 [74, 97, 115, 120, 133] (by decide +kernel) (by decide +kernel) w h).1
theorem wsX12_law_r5_in : ∀ w ∈ wsX12_law_r5, w ∈ lw_tbl := fun w h => (goodIn_p wsX12_law_r5 [166, 224, 280, 300] (by decide +kernel) (by decide +kernel) w h).1
theorem wsX12_law_r6_in : ∀ w ∈ wsX12_law_r6, w ∈ lw_tbl := fun w h => (goodIn_p wsX12_law_r6 [455, 459, 355, 359, 362] (by decide +kernel) (by decide +kernel) w h).1
theorem wsX12_law_r7_in : ∀ w ∈ wsX12_law_r7, w ∈ lw_tbl := fun w h => (goodIn_p wsX12_law_r7 [366, 371, 376, 380, 385] (by decide +kernel) (by decide +kernel) w h).1
theorem wsX12_law_r8_in : ∀ w ∈ wsX12_law_r8, w ∈ lw_tbl := fun w h => (goodIn_p wsX12_law_r8 [399, 391, 395] (by decide +kernel) (by decide +kernel) w h).1
theorem wsX12_law_r9_in : ∀ w ∈ wsX12_law_r9, w ∈ lw_tbl := fun w h => (goodIn_p wsX12_law_r9 [408, 412, 416, 420, 424] (by decide +kernel) (by decide +kernel) w h).1
theorem wsX12_law_r10_in : ∀ w ∈ wsX12_law_r10, w ∈ lw_tbl := fun w h => (goodIn_p wsX12_law_r10 [428, 431, 435, 439, 443, 446] (by decide +kernel) (by decide +kernel) w h).1
theorem wsX12_law_r11_in : ∀ w ∈ wsX12_law_r11, w ∈ lw_tbl := fun w h => (goodIn_p wsX12_law_r11 [351, 450, 403, 619, 565] (by decide +kernel) (by decide +kernel) w h).1
theorem wsX12_law_r12_in : ∀ w ∈ wsX12_law_r12, w ∈ lw_tbl := fun w h => (goodIn_p wsX12_law_r12 [468, 573, 577, 569] (by decide +kernel) (by decide +kernel) w h).1
theorem wsX12_law_r13_in : ∀ w ∈ wsX12_law_r13, w ∈ lw_tbl := fun w h => (goodIn_p wsX12_law_r13 [560, 480, 485, 517, 496, 521] (by decide +kernel) (by decide +kernel) w h).1
theorem wsX12_law_r14_in : ∀ w ∈ wsX12_law_r14, w ∈ lw_tbl := fun w h => (goodIn_p wsX12_law_r14 [525, 529, 510, 504, 535] (by decide +kernel) (by decide +kernel) w h).1
