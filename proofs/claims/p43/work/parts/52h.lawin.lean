theorem wsX12_law_r22_in : ∀ w ∈ wsX12_law_r22, w ∈ lw_tbl := fun w h => (goodIn_p wsX12_law_r22 [680, 686, 690, 694, 698] (by decide +kernel) (by decide +kernel) w h).1
theorem wsX12_law_r23_in : ∀ w ∈ wsX12_law_r23, w ∈ lw_tbl := fun w h => (goodIn_p wsX12_law_r23 [704, 710, 714, 724] (by decide +kernel) (by decide +kernel) w h).1
theorem wsX12_law_r24_in : ∀ w ∈ wsX12_law_r24, w ∈ lw_tbl := fun w h => (goodIn_p wsX12_law_r24 [728, 732, 736, 741] (by decide +kernel) (by decide +kernel) w h).1
