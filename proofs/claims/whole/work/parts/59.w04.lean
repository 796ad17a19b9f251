set_option maxRecDepth 20000 in
theorem wi_r33 : ∀ w ∈ wsL_law_r33, w ∈ lw_tbl := fun w h => (goodIn_p wsL_law_r33 [1107, 687, 1111, 695] rfl (by decide +kernel) w h).1
set_option maxRecDepth 20000 in
theorem wi_r34 : ∀ w ∈ wsL_law_r34, w ∈ lw_tbl := fun w h => (goodIn_p wsL_law_r34 [699, 702, 1118, 1121, 706, 710] rfl (by decide +kernel) w h).1
set_option maxRecDepth 20000 in
theorem wi_r35 : ∀ w ∈ wsL_law_r35, w ∈ lw_tbl := fun w h => (goodIn_p wsL_law_r35 [714, 1125, 1129, 718, 1133, 722] rfl (by decide +kernel) w h).1
set_option maxRecDepth 20000 in
theorem wi_r36 : ∀ w ∈ wsL_law_r36, w ∈ lw_tbl := fun w h => (goodIn_p wsL_law_r36 [725, 1137, 1140, 729, 733, 737] rfl (by decide +kernel) w h).1
set_option maxRecDepth 20000 in
theorem wi_r37 : ∀ w ∈ wsL_law_r37, w ∈ lw_tbl := fun w h => (goodIn_p wsL_law_r37 [741, 1144, 1148, 747, 750, 753] rfl (by decide +kernel) w h).1
set_option maxRecDepth 20000 in
theorem wi_r38 : ∀ w ∈ wsL_law_r38, w ∈ lw_tbl := fun w h => (goodIn_p wsL_law_r38 [1152, 758, 762, 766, 1156] rfl (by decide +kernel) w h).1
