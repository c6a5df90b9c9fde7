theorem wsL_law_r15_in : ∀ w ∈ wsL_law_r15, w ∈ lw_tbl := fun w h => (goodIn_p wsL_law_r15 [986, 989, 484, 487, 491, 495] (by decide +kernel) (by decide +kernel) w h).1
theorem wsL_law_r16_in : ∀ w ∈ wsL_law_r16, w ∈ lw_tbl := fun w h => (goodIn_p wsL_law_r16 [499, 504, 508, 993, 999] (by decide +kernel) (by decide +kernel) w h).1
theorem wsL_law_r17_in : ∀ w ∈ wsL_law_r17, w ∈ lw_tbl := fun w h => (goodIn_p wsL_law_r17 [512, 517, 1004, 521, 525, 1008] (by decide +kernel) (by decide +kernel) w h).1
theorem wsL_law_r18_in : ∀ w ∈ wsL_law_r18, w ∈ lw_tbl := fun w h => (goodIn_p wsL_law_r18 [1012, 530, 534, 1016, 1020] (by decide +kernel) (by decide +kernel) w h).1
theorem wsL_law_r19_in : ∀ w ∈ wsL_law_r19, w ∈ lw_tbl := fun w h => (goodIn_p wsL_law_r19 [539, 542, 545, 1024, 550] (by decide +kernel) (by decide +kernel) w h).1
theorem wsL_law_r20_in : ∀ w ∈ wsL_law_r20, w ∈ lw_tbl := fun w h => (goodIn_p wsL_law_r20 [554, 1031, 1036, 560, 564, 1040] (by decide +kernel) (by decide +kernel) w h).1
theorem wsL_law_r21_in : ∀ w ∈ wsL_law_r21, w ∈ lw_tbl := fun w h => (goodIn_p wsL_law_r21 [568, 573, 577] (by decide +kernel) (by decide +kernel) w h).1
theorem wsL_law_r22_in : ∀ w ∈ wsL_law_r22, w ∈ lw_tbl := fun w h => (goodIn_p wsL_law_r22 [583, 587, 591, 597] (by decide +kernel) (by decide +kernel) w h).1
theorem wsL_law_r23_in : ∀ w ∈ wsL_law_r23, w ∈ lw_tbl := fun w h => (goodIn_p wsL_law_r23 [601, 605, 609, 615, 621, 625] (by decide +kernel) (by decide +kernel) w h).1
theorem wsL_law_r24_in : ∀ w ∈ wsL_law_r24, w ∈ lw_tbl := fun w h => (goodIn_p wsL_law_r24 [635, 639, 643] (by decide +kernel) (by decide +kernel) w h).1
theorem wsL_law_r25_in : ∀ w ∈ wsL_law_r25, w ∈ lw_tbl := fun w h => (goodIn_p wsL_law_r25 [647, 652, 659, 665] (by decide +kernel) (by decide +kernel) w h).1
theorem wsL_law_r26_in : ∀ w ∈ wsL_law_r26, w ∈ lw_tbl := fun w h => (goodIn_p wsL_law_r26 [670, 674, 1044, 1050, 1054] (by decide +kernel) (by decide +kernel) w h).1
theorem wsL_law_r27_in : ∀ w ∈ wsL_law_r27, w ∈ lw_tbl := fun w h => (goodIn_p wsL_law_r27 [1060, 1064, 1068, 1072, 1076] (by decide +kernel) (by decide +kernel) w h).1
theorem wsL_law_r28_in : ∀ w ∈ wsL_law_r28, w ∈ lw_tbl := fun w h => (goodIn_p wsL_law_r28 [1085, 1089, 678, 1093, 682, 1097] (by decide +kernel) (by decide +kernel) w h).1
