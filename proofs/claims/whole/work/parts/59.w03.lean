set_option maxRecDepth 20000 in
theorem wi_r25 : ∀ w ∈ wsL_law_r25, w ∈ lw_tbl := fun w h => (goodIn_p wsL_law_r25 [1013, 1017, 1021, 1025, 1029, 1033] rfl (by decide +kernel) w h).1
set_option maxRecDepth 20000 in
theorem wi_r26 : ∀ w ∈ wsL_law_r26, w ∈ lw_tbl := fun w h => (goodIn_p wsL_law_r26 [1038, 594, 1043, 598, 1047] rfl (by decide +kernel) w h).1
set_option maxRecDepth 20000 in
theorem wi_r27 : ∀ w ∈ wsL_law_r27, w ∈ lw_tbl := fun w h => (goodIn_p wsL_law_r27 [603, 607, 611, 615, 618, 1051] rfl (by decide +kernel) w h).1
set_option maxRecDepth 20000 in
theorem wi_r28 : ∀ w ∈ wsL_law_r28, w ∈ lw_tbl := fun w h => (goodIn_p wsL_law_r28 [1055, 623, 627, 632, 636] rfl (by decide +kernel) w h).1
set_option maxRecDepth 20000 in
theorem wi_r29 : ∀ w ∈ wsL_law_r29, w ∈ lw_tbl := fun w h => (goodIn_p wsL_law_r29 [640, 644, 1059, 1063, 1067, 1071] rfl (by decide +kernel) w h).1
set_option maxRecDepth 20000 in
theorem wi_r30 : ∀ w ∈ wsL_law_r30, w ∈ lw_tbl := fun w h => (goodIn_p wsL_law_r30 [1075, 648, 654, 658, 662, 666] rfl (by decide +kernel) w h).1
set_option maxRecDepth 20000 in
theorem wi_r31 : ∀ w ∈ wsL_law_r31, w ∈ lw_tbl := fun w h => (goodIn_p wsL_law_r31 [670, 1079, 1085, 1089] rfl (by decide +kernel) w h).1
set_option maxRecDepth 20000 in
theorem wi_r32 : ∀ w ∈ wsL_law_r32, w ∈ lw_tbl := fun w h => (goodIn_p wsL_law_r32 [1093, 1096, 1099, 674, 1103, 678, 682] rfl (by decide +kernel) w h).1
