set_option maxRecDepth 20000 in
theorem wi_r17 : ∀ w ∈ wsL_law_r17, w ∈ lw_tbl := fun w h => (goodIn_p wsL_law_r17 [470, 474, 478, 482, 486] rfl (by decide +kernel) w h).1
set_option maxRecDepth 20000 in
theorem wi_r18 : ∀ w ∈ wsL_law_r18, w ∈ lw_tbl := fun w h => (goodIn_p wsL_law_r18 [955, 959, 963, 967, 971, 976] rfl (by decide +kernel) w h).1
set_option maxRecDepth 20000 in
theorem wi_r19 : ∀ w ∈ wsL_law_r19, w ∈ lw_tbl := fun w h => (goodIn_p wsL_law_r19 [980, 490, 494, 984, 498] rfl (by decide +kernel) w h).1
set_option maxRecDepth 20000 in
theorem wi_r20 : ∀ w ∈ wsL_law_r20, w ∈ lw_tbl := fun w h => (goodIn_p wsL_law_r20 [502, 988, 992, 506, 996, 510] rfl (by decide +kernel) w h).1
set_option maxRecDepth 20000 in
theorem wi_r21 : ∀ w ∈ wsL_law_r21, w ∈ lw_tbl := fun w h => (goodIn_p wsL_law_r21 [1000, 514, 1004, 518, 521, 1008] rfl (by decide +kernel) w h).1
set_option maxRecDepth 20000 in
theorem wi_r22 : ∀ w ∈ wsL_law_r22, w ∈ lw_tbl := fun w h => (goodIn_p wsL_law_r22 [529, 533, 537, 542] rfl (by decide +kernel) w h).1
set_option maxRecDepth 20000 in
theorem wi_r23 : ∀ w ∈ wsL_law_r23, w ∈ lw_tbl := fun w h => (goodIn_p wsL_law_r23 [548, 553, 558, 562, 566] rfl (by decide +kernel) w h).1
set_option maxRecDepth 20000 in
theorem wi_r24 : ∀ w ∈ wsL_law_r24, w ∈ lw_tbl := fun w h => (goodIn_p wsL_law_r24 [571, 590, 575, 579, 584, 587] rfl (by decide +kernel) w h).1
