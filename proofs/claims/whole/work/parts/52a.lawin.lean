theorem wsL_law_r1_in : ∀ w ∈ wsL_law_r1, w ∈ lw_tbl := fun w h => (goodIn_p wsL_law_r1 [65, 68] (by decide +kernel) (by decide +kernel) w h).1
theorem wsL_law_r2_in : ∀ w ∈ wsL_law_r2, w ∈ lw_tbl := fun w h => (goodIn_p wsL_law_r2 [73] (by decide +kernel) (by decide +kernel) w h).1
theorem wsL_law_r3_in : ∀ w ∈ wsL_law_r3, w ∈ lw_tbl := fun w h => (goodIn_p wsL_law_r3 [79, 94] (by decide +kernel) (by decide +kernel) w h).1
theorem wsL_law_r4_in : ∀ w ∈ wsL_law_r4, w ∈ lw_tbl := fun w h => (goodIn_p wsL_law_r4 [98, 101, 124, 142, 147, 160] (by decide +kernel) (by decide +kernel) w h).1
theorem wsL_law_r5_in : ∀ w ∈ wsL_law_r5, w ∈ lw_tbl := fun w h => (goodIn_p wsL_law_r5 [193, 251, 307, 327] (by decide +kernel) (by decide +kernel) w h).1
theorem wsL_law_r6_in : ∀ w ∈ wsL_law_r6, w ∈ lw_tbl := fun w h => (goodIn_p wsL_law_r6 [872, 876] (by decide +kernel) (by decide +kernel) w h).1
theorem wsL_law_r7_in : ∀ w ∈ wsL_law_r7, w ∈ lw_tbl := fun w h => (goodIn_p wsL_law_r7 [889, 368, 371, 379, 383] (by decide +kernel) (by decide +kernel) w h).1
theorem wsL_law_r8_in : ∀ w ∈ wsL_law_r8, w ∈ lw_tbl := fun w h => (goodIn_p wsL_law_r8 [387, 390, 394, 399, 404, 408] (by decide +kernel) (by decide +kernel) w h).1
theorem wsL_law_r9_in : ∀ w ∈ wsL_law_r9, w ∈ lw_tbl := fun w h => (goodIn_p wsL_law_r9 [413, 418, 926] (by decide +kernel) (by decide +kernel) w h).1
theorem wsL_law_r10_in : ∀ w ∈ wsL_law_r10, w ∈ lw_tbl := fun w h => (goodIn_p wsL_law_r10 [930, 933, 936, 940, 944, 423] (by decide +kernel) (by decide +kernel) w h).1
theorem wsL_law_r11_in : ∀ w ∈ wsL_law_r11, w ∈ lw_tbl := fun w h => (goodIn_p wsL_law_r11 [426, 948, 952, 430, 433, 436] (by decide +kernel) (by decide +kernel) w h).1
theorem wsL_law_r12_in : ∀ w ∈ wsL_law_r12, w ∈ lw_tbl := fun w h => (goodIn_p wsL_law_r12 [956, 959, 441, 966, 445, 448] (by decide +kernel) (by decide +kernel) w h).1
theorem wsL_law_r13_in : ∀ w ∈ wsL_law_r13, w ∈ lw_tbl := fun w h => (goodIn_p wsL_law_r13 [970, 452, 974, 456, 459, 978] (by decide +kernel) (by decide +kernel) w h).1
theorem wsL_law_r14_in : ∀ w ∈ wsL_law_r14, w ∈ lw_tbl := fun w h => (goodIn_p wsL_law_r14 [463, 467, 480, 471, 477, 982] (by decide +kernel) (by decide +kernel) w h).1
