set_option maxRecDepth 20000 in
theorem wi_r9 : ∀ w ∈ wsL_law_r9, w ∈ lw_tbl := fun w h => (goodIn_p wsL_law_r9 [360, 364, 368, 372, 376] rfl (by decide +kernel) w h).1
set_option maxRecDepth 20000 in
theorem wi_r10 : ∀ w ∈ wsL_law_r10, w ∈ lw_tbl := fun w h => (goodIn_p wsL_law_r10 [380, 384, 388, 896, 900] rfl (by decide +kernel) w h).1
set_option maxRecDepth 20000 in
theorem wi_r11 : ∀ w ∈ wsL_law_r11, w ∈ lw_tbl := fun w h => (goodIn_p wsL_law_r11 [904, 392, 396, 908] rfl (by decide +kernel) w h).1
set_option maxRecDepth 20000 in
theorem wi_r12 : ∀ w ∈ wsL_law_r12, w ∈ lw_tbl := fun w h => (goodIn_p wsL_law_r12 [401, 405, 912, 409, 413] rfl (by decide +kernel) w h).1
set_option maxRecDepth 20000 in
theorem wi_r13 : ∀ w ∈ wsL_law_r13, w ∈ lw_tbl := fun w h => (goodIn_p wsL_law_r13 [417, 421, 916, 920, 426] rfl (by decide +kernel) w h).1
set_option maxRecDepth 20000 in
theorem wi_r14 : ∀ w ∈ wsL_law_r14, w ∈ lw_tbl := fun w h => (goodIn_p wsL_law_r14 [430, 434, 438, 442, 446] rfl (by decide +kernel) w h).1
set_option maxRecDepth 20000 in
theorem wi_r15 : ∀ w ∈ wsL_law_r15, w ∈ lw_tbl := fun w h => (goodIn_p wsL_law_r15 [450, 924, 928, 932, 936, 940] rfl (by decide +kernel) w h).1
set_option maxRecDepth 20000 in
theorem wi_r16 : ∀ w ∈ wsL_law_r16, w ∈ lw_tbl := fun w h => (goodIn_p wsL_law_r16 [454, 944, 458, 948, 463] rfl (by decide +kernel) w h).1
