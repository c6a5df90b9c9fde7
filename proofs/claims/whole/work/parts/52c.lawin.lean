theorem wsL_law_r29_in : ∀ w ∈ wsL_law_r29, w ∈ lw_tbl := fun w h => (goodIn_p wsL_law_r29 [686, 1101, 690, 1105, 694] (by decide +kernel) (by decide +kernel) w h).1
theorem wsL_law_r30_in : ∀ w ∈ wsL_law_r30, w ∈ lw_tbl := fun w h => (goodIn_p wsL_law_r30 [1110, 698, 1114, 702, 1118] (by decide +kernel) (by decide +kernel) w h).1
theorem wsL_law_r31_in : ∀ w ∈ wsL_law_r31, w ∈ lw_tbl := fun w h => (goodIn_p wsL_law_r31 [706, 1122, 710, 1126, 714, 1130] (by decide +kernel) (by decide +kernel) w h).1
theorem wsL_law_r32_in : ∀ w ∈ wsL_law_r32, w ∈ lw_tbl := fun w h => (goodIn_p wsL_law_r32 [718, 1134, 722, 1138, 726] (by decide +kernel) (by decide +kernel) w h).1
theorem wsL_law_r33_in : ∀ w ∈ wsL_law_r33, w ∈ lw_tbl := fun w h => (goodIn_p wsL_law_r33 [1142, 730, 1146, 734, 1150] (by decide +kernel) (by decide +kernel) w h).1
theorem wsL_law_r34_in : ∀ w ∈ wsL_law_r34, w ∈ lw_tbl := fun w h => (goodIn_p wsL_law_r34 [738, 1154, 743, 1161] (by decide +kernel) (by decide +kernel) w h).1
theorem wsL_law_r35_in : ∀ w ∈ wsL_law_r35, w ∈ lw_tbl := fun w h => (goodIn_p wsL_law_r35 [1167, 1172, 749, 1176, 753, 1180] (by decide +kernel) (by decide +kernel) w h).1
theorem wsL_law_r36_in : ∀ w ∈ wsL_law_r36, w ∈ lw_tbl := fun w h => (goodIn_p wsL_law_r36 [757, 760, 764, 1186, 769] (by decide +kernel) (by decide +kernel) w h).1
theorem wsL_law_r37_in : ∀ w ∈ wsL_law_r37, w ∈ lw_tbl := fun w h => (goodIn_p wsL_law_r37 [1192, 773, 777, 781] (by decide +kernel) (by decide +kernel) w h).1
theorem wsL_law_r38_in : ∀ w ∈ wsL_law_r38, w ∈ lw_tbl := fun w h => (goodIn_p wsL_law_r38 [785, 789, 793, 798, 802, 806] (by decide +kernel) (by decide +kernel) w h).1
theorem wsL_law_r39_in : ∀ w ∈ wsL_law_r39, w ∈ lw_tbl := fun w h => (goodIn_p wsL_law_r39 [811, 1196, 1200, 1204] (by decide +kernel) (by decide +kernel) w h).1
theorem wsL_law_r40_in : ∀ w ∈ wsL_law_r40, w ∈ lw_tbl := fun w h => (goodIn_p wsL_law_r40 [1208, 1212, 1216, 1220, 815, 819] (by decide +kernel) (by decide +kernel) w h).1
theorem wsL_law_r41_in : ∀ w ∈ wsL_law_r41, w ∈ lw_tbl := fun w h => (goodIn_p wsL_law_r41 [1224, 823, 828, 833] (by decide +kernel) (by decide +kernel) w h).1
theorem wsL_law_r42_in : ∀ w ∈ wsL_law_r42, w ∈ lw_tbl := fun w h => (goodIn_p wsL_law_r42 [843, 849, 860] (by decide +kernel) (by decide +kernel) w h).1
