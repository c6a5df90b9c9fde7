theorem wsX12_law_r15_in : ∀ w ∈ wsX12_law_r15, w ∈ lw_tbl := fun w h => (goodIn_p wsX12_law_r15 [489, 493, 500, 513, 581] (by decide +kernel) (by decide +kernel) w h).1
theorem wsX12_law_r16_in : ∀ w ∈ wsX12_law_r16, w ∈ lw_tbl := fun w h => (goodIn_p wsX12_law_r16 [597, 601, 605, 613, 609] (by decide +kernel) (by decide +kernel) w h).1
theorem wsX12_law_r17_in : ∀ w ∈ wsX12_law_r17, w ∈ lw_tbl := fun w h => (goodIn_p wsX12_law_r17 [616, 463, 471, 476] (by decide +kernel) (by decide +kernel) w h).1
theorem wsX12_law_r18_in : ∀ w ∈ wsX12_law_r18, w ∈ lw_tbl := fun w h => (goodIn_p wsX12_law_r18 [541, 545, 549, 556] (by decide +kernel) (by decide +kernel) w h).1
theorem wsX12_law_r19_in : ∀ w ∈ wsX12_law_r19, w ∈ lw_tbl := fun w h => (goodIn_p wsX12_law_r19 [585, 589, 593, 640] (by decide +kernel) (by decide +kernel) w h).1
theorem wsX12_law_r20_in : ∀ w ∈ wsX12_law_r20, w ∈ lw_tbl := fun w h => (goodIn_p wsX12_law_r20 [643, 647, 650, 656, 662] (by decide +kernel) (by decide +kernel) w h).1
theorem wsX12_law_r21_in : ∀ w ∈ wsX12_law_r21, w ∈ lw_tbl := fun w h => (goodIn_p wsX12_law_r21 [666, 672, 676] (by decide +kernel) (by decide +kernel) w h).1
theorem wsX12_law_r22_in : ∀ w ∈ wsX12_law_r22, w ∈ lw_tbl := fun w h => (goodIn_p wsX12_law_r22 [680, 686, 690, 694, 698] (by decide +kernel) (by decide +kernel) w h).1
theorem wsX12_law_r23_in : ∀ w ∈ wsX12_law_r23, w ∈ lw_tbl := fun w h => (goodIn_p wsX12_law_r23 [704, 710, 714, 724] (by decide +kernel) (by decide +kernel) w h).1
theorem wsX12_law_r24_in : ∀ w ∈ wsX12_law_r24, w ∈ lw_tbl := fun w h => (goodIn_p wsX12_law_r24 [728, 732, 736, 741] (by decide +kernel) (by decide +kernel) w h).1
theorem wsX12_law_r25_in : ∀ w ∈ wsX12_law_r25, w ∈ lw_tbl := fun w h => (goodIn_p wsX12_law_r25 [748, 754, 759, 763, 768, 772] (by decide +kernel) (by decide +kernel) w h).1
theorem wsX12_law_r26_in : ∀ w ∈ wsX12_law_r26, w ∈ lw_tbl := fun w h => (goodIn_p wsX12_law_r26 [777, 781, 785, 344, 789, 792] (by decide +kernel) (by decide +kernel) w h).1
theorem wsX12_law_r27_in : ∀ w ∈ wsX12_law_r27, w ∈ lw_tbl := fun w h => (goodIn_p wsX12_law_r27 [800, 805, 808, 811, 818] (by decide +kernel) (by decide +kernel) w h).1
theorem wsX12_law_r28_in : ∀ w ∈ wsX12_law_r28, w ∈ lw_tbl := fun w h => (goodIn_p wsX12_law_r28 [821, 825, 829, 833, 837, 841] (by decide +kernel) (by decide +kernel) w h).1
