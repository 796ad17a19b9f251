set_option maxRecDepth 20000 in
theorem wi_r33 : ∀ w ∈ wsL_law_r33, w ∈ lw_tbl := fun w h => (goodIn_p wsL_law_r33 [1104, 684, 1108, 692] rfl (by decide +kernel) w h).1
set_option maxRecDepth 20000 in
theorem wi_r34 : ∀ w ∈ wsL_law_r34, w ∈ lw_tbl := fun w h => (goodIn_p wsL_law_r34 [696, 699, 1115, 1118, 703, 707, 711] rfl (by decide +kernel) w h).1
set_option maxRecDepth 20000 in
theorem wi_r35 : ∀ w ∈ wsL_law_r35, w ∈ lw_tbl := fun w h => (goodIn_p wsL_law_r35 [1122, 1126, 715, 1130, 719, 722] rfl (by decide +kernel) w h).1
set_option maxRecDepth 20000 in
theorem wi_r36 : ∀ w ∈ wsL_law_r36, w ∈ lw_tbl := fun w h => (goodIn_p wsL_law_r36 [1134, 1137, 726, 730, 734, 738] rfl (by decide +kernel) w h).1
set_option maxRecDepth 20000 in
theorem wi_r37 : ∀ w ∈ wsL_law_r37, w ∈ lw_tbl := fun w h => (goodIn_p wsL_law_r37 [1141, 1145, 744, 747, 750, 1149] rfl (by decide +kernel) w h).1
set_option maxRecDepth 20000 in
theorem wi_r38 : ∀ w ∈ wsL_law_r38, w ∈ lw_tbl := fun w h => (goodIn_p wsL_law_r38 [755, 759, 763, 1153] rfl (by decide +kernel) w h).1
