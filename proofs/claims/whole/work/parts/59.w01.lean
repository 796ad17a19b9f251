set_option maxRecDepth 20000 in
theorem wi_r9 : ∀ w ∈ wsL_law_r9, w ∈ lw_tbl := fun w h => (goodIn_p wsL_law_r9 [360, 364, 368, 372, 376] rfl (by decide +kernel) w h).1
set_option maxRecDepth 20000 in
theorem wi_r10 : ∀ w ∈ wsL_law_r10, w ∈ lw_tbl := fun w h => (goodIn_p wsL_law_r10 [380, 384, 388, 899, 903] rfl (by decide +kernel) w h).1
set_option maxRecDepth 20000 in
theorem wi_r11 : ∀ w ∈ wsL_law_r11, w ∈ lw_tbl := fun w h => (goodIn_p wsL_law_r11 [907, 392, 396, 911] rfl (by decide +kernel) w h).1
set_option maxRecDepth 20000 in
theorem wi_r12 : ∀ w ∈ wsL_law_r12, w ∈ lw_tbl := fun w h => (goodIn_p wsL_law_r12 [401, 405, 915, 409, 413] rfl (by decide +kernel) w h).1
set_option maxRecDepth 20000 in
theorem wi_r13 : ∀ w ∈ wsL_law_r13, w ∈ lw_tbl := fun w h => (goodIn_p wsL_law_r13 [417, 421, 424, 919, 923] rfl (by decide +kernel) w h).1
set_option maxRecDepth 20000 in
theorem wi_r14 : ∀ w ∈ wsL_law_r14, w ∈ lw_tbl := fun w h => (goodIn_p wsL_law_r14 [429, 433, 437, 441, 445, 449] rfl (by decide +kernel) w h).1
set_option maxRecDepth 20000 in
theorem wi_r15 : ∀ w ∈ wsL_law_r15, w ∈ lw_tbl := fun w h => (goodIn_p wsL_law_r15 [453, 927, 931, 935, 939, 943] rfl (by decide +kernel) w h).1
set_option maxRecDepth 20000 in
theorem wi_r16 : ∀ w ∈ wsL_law_r16, w ∈ lw_tbl := fun w h => (goodIn_p wsL_law_r16 [457, 947, 461, 951, 466] rfl (by decide +kernel) w h).1
