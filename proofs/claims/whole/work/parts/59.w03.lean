set_option maxRecDepth 20000 in
theorem wi_r25 : ∀ w ∈ wsL_law_r25, w ∈ lw_tbl := fun w h => (goodIn_p wsL_law_r25 [1014, 1018, 1022, 1026, 1030] rfl (by decide +kernel) w h).1
set_option maxRecDepth 20000 in
theorem wi_r26 : ∀ w ∈ wsL_law_r26, w ∈ lw_tbl := fun w h => (goodIn_p wsL_law_r26 [1035, 591, 1040, 595, 1044, 600] rfl (by decide +kernel) w h).1
set_option maxRecDepth 20000 in
theorem wi_r27 : ∀ w ∈ wsL_law_r27, w ∈ lw_tbl := fun w h => (goodIn_p wsL_law_r27 [604, 608, 612, 615, 1048, 1052] rfl (by decide +kernel) w h).1
set_option maxRecDepth 20000 in
theorem wi_r28 : ∀ w ∈ wsL_law_r28, w ∈ lw_tbl := fun w h => (goodIn_p wsL_law_r28 [620, 624, 629, 633, 637] rfl (by decide +kernel) w h).1
set_option maxRecDepth 20000 in
theorem wi_r29 : ∀ w ∈ wsL_law_r29, w ∈ lw_tbl := fun w h => (goodIn_p wsL_law_r29 [641, 1056, 1060, 1064, 1068, 1072] rfl (by decide +kernel) w h).1
set_option maxRecDepth 20000 in
theorem wi_r30 : ∀ w ∈ wsL_law_r30, w ∈ lw_tbl := fun w h => (goodIn_p wsL_law_r30 [645, 651, 655, 659, 663] rfl (by decide +kernel) w h).1
set_option maxRecDepth 20000 in
theorem wi_r31 : ∀ w ∈ wsL_law_r31, w ∈ lw_tbl := fun w h => (goodIn_p wsL_law_r31 [667, 1076, 1082, 1086, 1090] rfl (by decide +kernel) w h).1
set_option maxRecDepth 20000 in
theorem wi_r32 : ∀ w ∈ wsL_law_r32, w ∈ lw_tbl := fun w h => (goodIn_p wsL_law_r32 [1093, 1096, 671, 1100, 675, 679] rfl (by decide +kernel) w h).1
