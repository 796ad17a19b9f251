set_option maxRecDepth 20000 in
theorem wi_r17 : ∀ w ∈ wsL_law_r17, w ∈ lw_tbl := fun w h => (goodIn_p wsL_law_r17 [467, 471, 475, 479, 483, 952] rfl (by decide +kernel) w h).1
set_option maxRecDepth 20000 in
theorem wi_r18 : ∀ w ∈ wsL_law_r18, w ∈ lw_tbl := fun w h => (goodIn_p wsL_law_r18 [956, 960, 964, 968, 973] rfl (by decide +kernel) w h).1
set_option maxRecDepth 20000 in
theorem wi_r19 : ∀ w ∈ wsL_law_r19, w ∈ lw_tbl := fun w h => (goodIn_p wsL_law_r19 [977, 487, 491, 981, 495, 499] rfl (by decide +kernel) w h).1
set_option maxRecDepth 20000 in
theorem wi_r20 : ∀ w ∈ wsL_law_r20, w ∈ lw_tbl := fun w h => (goodIn_p wsL_law_r20 [985, 989, 503, 993, 507, 997] rfl (by decide +kernel) w h).1
set_option maxRecDepth 20000 in
theorem wi_r21 : ∀ w ∈ wsL_law_r21, w ∈ lw_tbl := fun w h => (goodIn_p wsL_law_r21 [511, 1001, 515, 518, 1005] rfl (by decide +kernel) w h).1
set_option maxRecDepth 20000 in
theorem wi_r22 : ∀ w ∈ wsL_law_r22, w ∈ lw_tbl := fun w h => (goodIn_p wsL_law_r22 [526, 530, 534, 539, 545] rfl (by decide +kernel) w h).1
set_option maxRecDepth 20000 in
theorem wi_r23 : ∀ w ∈ wsL_law_r23, w ∈ lw_tbl := fun w h => (goodIn_p wsL_law_r23 [550, 555, 559, 563, 568] rfl (by decide +kernel) w h).1
set_option maxRecDepth 20000 in
theorem wi_r24 : ∀ w ∈ wsL_law_r24, w ∈ lw_tbl := fun w h => (goodIn_p wsL_law_r24 [587, 572, 576, 581, 584, 1010] rfl (by decide +kernel) w h).1
