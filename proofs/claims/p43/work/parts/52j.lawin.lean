theorem wsX12_law_r28_in : ∀ w ∈ wsX12_law_r28, w ∈ lw_tbl := fun w h => (goodIn_p wsX12_law_r28 [821, 825, 829, 833, 837, 841] (by decide +kernel) (by decide +kernel) w h).1
theorem wsX12_law_r29_in : ∀ w ∈ wsX12_law_r29, w ∈ lw_tbl := fun w h => (goodIn_p wsX12_law_r29 [846, 341, 347, 850] (by decide +kernel) (by decide +kernel) w h).1
theorem wsX100_inl : ∀ w ∈ wsX100, w ∈ lw_tbl := fun w h => (goodIn_p wsX100 [] (by decide +kernel) (by decide +kernel) w h).1
