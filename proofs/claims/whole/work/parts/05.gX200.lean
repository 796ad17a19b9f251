set_option maxRecDepth 20000 in
theorem ggX2_run_X2_startShares : GoodIn wsX2_run wsX2_startShares := goodIn_r _ [11, 3, 12, 13, 14, 15, 16, 17, 18, 19, 20, 21, 10, 22, 5, 23, 24, 25, 26, 27, 28, 29, 30, 31, 32, 33, 34, 35, 36, 37, 38, 39, 40, 41, 42, 43, 44, 45, 46, 47, 48, 49, 50, 51, 52, 53, 54, 55, 56, 104, 105, 106, 107, 108, 109, 110, 111, 112, 114, 115, 116, 117, 118, 119, 120, 121, 122, 123, 124] (by decide +kernel) (by decide +kernel)
set_option maxRecDepth 20000 in
theorem gX2_run_X2_startShares : GoodIn wsX2_run (wsV RX2 56 RX2 yX2_startShares wsX2_startShares) := goodIn_app (goodIn_of _ (by decide +kernel)) ggX2_run_X2_startShares
set_option maxRecDepth 20000 in
theorem ggX2_run_X2_sumSaid : GoodIn wsX2_run wsX2_sumSaid := goodIn_r _ [60, 61, 1, 2, 62, 3, 4, 5, 23, 63, 24, 64, 33, 34, 29, 35, 36, 37, 65, 66, 10, 67, 104, 105, 106, 107, 108, 109, 110, 111, 112, 113, 114, 115, 116, 117, 118, 119, 120, 121, 122, 123, 124] (by decide +kernel) (by decide +kernel)
set_option maxRecDepth 20000 in
theorem gX2_run_X2_sumSaid : GoodIn wsX2_run (wsV RX2 63 RX2 yX2_sumSaid wsX2_sumSaid) := goodIn_app (goodIn_of _ (by decide +kernel)) ggX2_run_X2_sumSaid
set_option maxRecDepth 20000 in
theorem ggX2_run_X2_fillTables : GoodIn wsX2_run wsX2_fillTables := goodIn_r _ [71, 72, 73, 74, 10, 75, 61, 76, 77, 65, 66, 67, 104, 105, 106, 107, 108, 109, 110, 111, 112] (by decide +kernel) (by decide +kernel)
set_option maxRecDepth 20000 in
theorem gX2_run_X2_fillTables : GoodIn wsX2_run (wsV RX2 66 RX2 yX2_fillTables wsX2_fillTables) := goodIn_app (goodIn_of _ (by decide +kernel)) ggX2_run_X2_fillTables
set_option maxRecDepth 20000 in
theorem ggX2_run_X2_renewAll : GoodIn wsX2_run wsX2_renewAll := goodIn_r _ [81, 3, 4, 5, 82, 83, 84, 85, 12, 13, 14, 15, 16, 17, 18, 26, 27, 28, 29, 30, 31, 32, 33, 34, 35, 36, 37, 86, 87, 88, 10, 89, 23, 90, 6, 63, 42, 43, 44, 25, 64, 91, 92, 93, 94, 95, 76, 96, 65, 66, 67, 97, 98, 99, 100, 24, 101, 102, 103, 104, 105, 106, 107, 108, 109, 110, 111, 112, 114, 115, 116, 117, 118, 119, 120, 121, 122, 123, 124] (by decide +kernel) (by decide +kernel)
set_option maxRecDepth 20000 in
theorem gX2_run_X2_renewAll : GoodIn wsX2_run (wsV RX2 69 RX2 yX2_renewAll wsX2_renewAll) := goodIn_app (goodIn_of _ (by decide +kernel)) ggX2_run_X2_renewAll
set_option maxRecDepth 20000 in
theorem ggX2_startAlike_X2_alike : GoodIn wsX2_startAlike wsX2_alike := goodIn_r _ [7, 8] (by decide +kernel) (by decide +kernel)
set_option maxRecDepth 20000 in
theorem gX2_startAlike_X2_alike : GoodIn wsX2_startAlike (va_wsS RX2 77 yX2_alike wsX2_alike) := goodIn_app (goodIn_of _ (by decide +kernel)) ggX2_startAlike_X2_alike
set_option maxRecDepth 20000 in
theorem ggX2_startGiven_X1_given : GoodIn wsX2_startGiven wsX1_given := goodIn_r _ [9, 10, 11, 21, 22, 23, 24, 25, 26, 27] (by decide +kernel) (by decide +kernel)
set_option maxRecDepth 20000 in
theorem gX2_startGiven_X1_given : GoodIn wsX2_startGiven (wsV RX2 81 RX1 yX1_given wsX1_given) := goodIn_app (goodIn_of _ (by decide +kernel)) ggX2_startGiven_X1_given
set_option maxRecDepth 20000 in
theorem ggX2_startByAnswers_X0_countTo : GoodIn wsX2_startByAnswers wsX0_countTo := goodIn_r _ [10, 11, 12, 13, 14, 9, 15, 16, 17, 46, 47, 48, 49] (by decide +kernel) (by decide +kernel)
set_option maxRecDepth 20000 in
theorem gX2_startByAnswers_X0_countTo : GoodIn wsX2_startByAnswers (wsV RX2 84 RX0 yX0_countTo wsX0_countTo) := goodIn_app (goodIn_of _ (by decide +kernel)) ggX2_startByAnswers_X0_countTo
set_option maxRecDepth 20000 in
theorem ggX2_startByAnswers_X2_startAlike : GoodIn wsX2_startByAnswers wsX2_startAlike := goodIn_r _ [22, 2, 3, 4, 23, 24, 21, 25, 5, 30, 31, 32, 33, 34, 35, 36, 37, 38, 39, 40, 41, 42, 43, 44, 45] (by decide +kernel) (by decide +kernel)
set_option maxRecDepth 20000 in
theorem gX2_startByAnswers_X2_startAlike : GoodIn wsX2_startByAnswers (wsV RX2 87 RX2 yX2_startAlike wsX2_startAlike) := goodIn_app (goodIn_of _ (by decide +kernel)) ggX2_startByAnswers_X2_startAlike
set_option maxRecDepth 20000 in
theorem ggX2_startByAnswers_X0_countWith : GoodIn wsX2_startByAnswers wsX0_countWith := goodIn_r _ [29, 11, 17, 12, 13, 14, 9, 15, 16, 46, 47, 48, 49] (by decide +kernel) (by decide +kernel)
set_option maxRecDepth 20000 in
theorem gX2_startByAnswers_X0_countWith : GoodIn wsX2_startByAnswers (wsV RX2 90 RX0 yX0_countWith wsX0_countWith) := goodIn_app (goodIn_of _ (by decide +kernel)) ggX2_startByAnswers_X0_countWith
set_option maxRecDepth 20000 in
theorem ggX2_startShares_X1_isFree : GoodIn wsX2_startShares wsX1_isFree := goodIn_r _ [6, 7, 8, 58, 59, 60, 61, 62, 63, 64] (by decide +kernel) (by decide +kernel)
set_option maxRecDepth 20000 in
theorem gX2_startShares_X1_isFree : GoodIn wsX2_startShares (wsV RX2 94 RX1 yX1_isFree wsX1_isFree) := goodIn_app (goodIn_of _ (by decide +kernel)) ggX2_startShares_X1_isFree
set_option maxRecDepth 20000 in
theorem ggX2_startShares_X2_startByAnswers : GoodIn wsX2_startShares wsX2_startByAnswers := goodIn_r _ [13, 14, 1, 15, 16, 17, 18, 19, 20, 21, 22, 23, 24, 25, 26, 27, 28, 29, 30, 31, 32, 12, 33, 34, 35, 36, 37, 38, 39, 40, 49, 50, 51, 52, 53, 54, 55, 56, 57, 58, 59, 60, 61, 62, 63, 64, 65, 66, 67, 68] (by decide +kernel) (by decide +kernel)
set_option maxRecDepth 20000 in
theorem gX2_startShares_X2_startByAnswers : GoodIn wsX2_startShares (wsV RX2 98 RX2 yX2_startByAnswers wsX2_startByAnswers) := goodIn_app (goodIn_of _ (by decide +kernel)) ggX2_startShares_X2_startByAnswers
set_option maxRecDepth 20000 in
theorem ggX2_startShares_X2_startGiven : GoodIn wsX2_startShares wsX2_startGiven := goodIn_r _ [44, 1, 15, 16, 17, 45, 46, 47, 5, 48, 7, 8, 49, 50, 51, 52, 53, 54, 55, 56, 57, 58, 59, 60, 61, 62, 63, 64] (by decide +kernel) (by decide +kernel)
set_option maxRecDepth 20000 in
theorem gX2_startShares_X2_startGiven : GoodIn wsX2_startShares (wsV RX2 101 RX2 yX2_startGiven wsX2_startGiven) := goodIn_app (goodIn_of _ (by decide +kernel)) ggX2_startShares_X2_startGiven
set_option maxRecDepth 20000 in
theorem ggX2_sumSaid_X0_counts : GoodIn wsX2_sumSaid wsX0_counts := goodIn_r _ [15, 16, 17, 39, 40, 41, 42] (by decide +kernel) (by decide +kernel)
set_option maxRecDepth 20000 in
theorem gX2_sumSaid_X0_counts : GoodIn wsX2_sumSaid (wsV RX2 106 RX0 yX0_counts wsX0_counts) := goodIn_app (goodIn_of _ (by decide +kernel)) ggX2_sumSaid_X0_counts
set_option maxRecDepth 20000 in
theorem ggX2_sumSaid_X2_spot : GoodIn wsX2_sumSaid wsX2_spot := goodIn_r _ [21] (by decide +kernel) (by decide +kernel)
set_option maxRecDepth 20000 in
theorem gX2_sumSaid_X2_spot : GoodIn wsX2_sumSaid (va_wsS RX2 113 yX2_spot wsX2_spot) := goodIn_app (goodIn_of _ (by decide +kernel)) ggX2_sumSaid_X2_spot
set_option maxRecDepth 20000 in
theorem ggX2_fillTables_X2_fillLine : GoodIn wsX2_fillTables wsX2_fillLine := goodIn_r _ [5, 6, 7, 8, 9, 10, 4, 11, 12, 13, 14, 15, 16, 17, 18, 19, 20] (by decide +kernel) (by decide +kernel)
set_option maxRecDepth 20000 in
theorem gX2_fillTables_X2_fillLine : GoodIn wsX2_fillTables (wsV RX2 117 RX2 yX2_fillLine wsX2_fillLine) := goodIn_app (goodIn_of _ (by decide +kernel)) ggX2_fillTables_X2_fillLine
set_option maxRecDepth 20000 in
theorem ggX2_fillLine_X2_spot : GoodIn wsX2_fillLine wsX2_spot := goodIn_r _ [7] (by decide +kernel) (by decide +kernel)
set_option maxRecDepth 20000 in
theorem gX2_fillLine_X2_spot : GoodIn wsX2_fillLine (va_wsS RX2 113 yX2_spot wsX2_spot) := goodIn_app (goodIn_of _ (by decide +kernel)) ggX2_fillLine_X2_spot
set_option maxRecDepth 20000 in
theorem ggX2_renewAll_X1_isFree : GoodIn wsX2_renewAll wsX1_isFree := goodIn_r _ [12, 13, 14, 68, 69, 70, 71, 72, 73, 74] (by decide +kernel) (by decide +kernel)
set_option maxRecDepth 20000 in
theorem gX2_renewAll_X1_isFree : GoodIn wsX2_renewAll (wsV RX2 94 RX1 yX1_isFree wsX1_isFree) := goodIn_app (goodIn_of _ (by decide +kernel)) ggX2_renewAll_X1_isFree
set_option maxRecDepth 20000 in
theorem ggX2_renewAll_X0_countTo : GoodIn wsX2_renewAll wsX0_countTo := goodIn_r _ [19, 20, 21, 22, 23, 18, 24, 25, 26, 75, 76, 77, 78] (by decide +kernel) (by decide +kernel)
set_option maxRecDepth 20000 in
theorem gX2_renewAll_X0_countTo : GoodIn wsX2_renewAll (wsV RX2 84 RX0 yX0_countTo wsX0_countTo) := goodIn_app (goodIn_of _ (by decide +kernel)) ggX2_renewAll_X0_countTo
set_option maxRecDepth 20000 in
theorem ggX2_renewAll_X2_weighAnswers : GoodIn wsX2_renewAll wsX2_weighAnswers := goodIn_r _ [31, 1, 32, 33, 3, 34, 35, 36, 37, 30, 38, 39, 40, 22, 23, 18, 24, 25, 26, 41, 42, 43, 44, 45, 46, 47, 48, 49, 50, 59, 60, 61, 62, 63, 64, 65, 66, 67, 68, 69, 70, 71, 72, 73, 74, 75, 76, 77, 78] (by decide +kernel) (by decide +kernel)
set_option maxRecDepth 20000 in
theorem gX2_renewAll_X2_weighAnswers : GoodIn wsX2_renewAll (wsV RX2 123 RX2 yX2_weighAnswers wsX2_weighAnswers) := goodIn_app (goodIn_of _ (by decide +kernel)) ggX2_renewAll_X2_weighAnswers
set_option maxRecDepth 20000 in
theorem ggX2_renewAll_X2_takeFresh : GoodIn wsX2_renewAll wsX2_takeFresh := goodIn_r _ [54, 1, 32, 33, 55, 56, 57, 6, 58, 4, 5, 7, 59, 60, 61, 62, 63, 64, 65, 66, 67, 68, 69, 70, 71, 72, 73, 74] (by decide +kernel) (by decide +kernel)
set_option maxRecDepth 20000 in
theorem gX2_renewAll_X2_takeFresh : GoodIn wsX2_renewAll (wsV RX2 126 RX2 yX2_takeFresh wsX2_takeFresh) := goodIn_app (goodIn_of _ (by decide +kernel)) ggX2_renewAll_X2_takeFresh
set_option maxRecDepth 20000 in
theorem ggX2_weighAnswers_X2_alike : GoodIn wsX2_weighAnswers wsX2_alike := goodIn_r _ [10, 11] (by decide +kernel) (by decide +kernel)
set_option maxRecDepth 20000 in
theorem gX2_weighAnswers_X2_alike : GoodIn wsX2_weighAnswers (va_wsS RX2 77 yX2_alike wsX2_alike) := goodIn_app (goodIn_of _ (by decide +kernel)) ggX2_weighAnswers_X2_alike
set_option maxRecDepth 20000 in
theorem ggX2_weighAnswers_X0_counts : GoodIn wsX2_weighAnswers wsX0_counts := goodIn_r _ [16, 17, 18, 45, 46, 47, 48] (by decide +kernel) (by decide +kernel)
set_option maxRecDepth 20000 in
theorem gX2_weighAnswers_X0_counts : GoodIn wsX2_weighAnswers (wsV RX2 106 RX0 yX0_counts wsX0_counts) := goodIn_app (goodIn_of _ (by decide +kernel)) ggX2_weighAnswers_X0_counts
set_option maxRecDepth 20000 in
theorem ggX2_weighAnswers_X2_weigh : GoodIn wsX2_weighAnswers wsX2_weigh := goodIn_r _ [22, 23, 3, 24, 25, 26, 27, 9, 28, 29, 30, 31, 32, 33, 34, 35, 36, 37] (by decide +kernel) (by decide +kernel)
set_option maxRecDepth 20000 in
theorem gX2_weighAnswers_X2_weigh : GoodIn wsX2_weighAnswers (wsV RX2 134 RX2 yX2_weigh wsX2_weigh) := goodIn_app (goodIn_of _ (by decide +kernel)) ggX2_weighAnswers_X2_weigh
set_option maxRecDepth 20000 in
theorem ggX2_weigh_X2_spot : GoodIn wsX2_weigh wsX2_spot := goodIn_r _ [8] (by decide +kernel) (by decide +kernel)
set_option maxRecDepth 20000 in
theorem gX2_weigh_X2_spot : GoodIn wsX2_weigh (va_wsS RX2 113 yX2_spot wsX2_spot) := goodIn_app (goodIn_of _ (by decide +kernel)) ggX2_weigh_X2_spot
set_option maxRecDepth 20000 in
theorem ggX2_helpOf_X2_spot : GoodIn wsX2_helpOf wsX2_spot := goodIn_r _ [13] (by decide +kernel) (by decide +kernel)
set_option maxRecDepth 20000 in
theorem gX2_helpOf_X2_spot : GoodIn wsX2_helpOf (va_wsS RX2 113 yX2_spot wsX2_spot) := goodIn_app (goodIn_of _ (by decide +kernel)) ggX2_helpOf_X2_spot
set_option maxRecDepth 20000 in
theorem ggX2_helpOf_X2_greatest : GoodIn wsX2_helpOf wsX2_greatest := goodIn_r _ [17, 1, 2, 3, 18, 19, 20, 21, 22, 23, 24, 25, 26, 27, 28, 29, 30, 31, 32, 33] (by decide +kernel) (by decide +kernel)
set_option maxRecDepth 20000 in
theorem gX2_helpOf_X2_greatest : GoodIn wsX2_helpOf (wsV RX2 145 RX2 yX2_greatest wsX2_greatest) := goodIn_app (goodIn_of _ (by decide +kernel)) ggX2_helpOf_X2_greatest
set_option maxRecDepth 20000 in
theorem ggX2_keepEnds_X2_greatest : GoodIn wsX2_keepEnds wsX2_greatest := goodIn_r _ [8, 1, 9, 10, 11, 12, 13, 14, 15, 16, 17, 18, 19, 20, 21, 22, 23, 24, 25, 26] (by decide +kernel) (by decide +kernel)
set_option maxRecDepth 20000 in
theorem gX2_keepEnds_X2_greatest : GoodIn wsX2_keepEnds (wsV RX2 145 RX2 yX2_greatest wsX2_greatest) := goodIn_app (goodIn_of _ (by decide +kernel)) ggX2_keepEnds_X2_greatest
set_option maxRecDepth 20000 in
theorem ggX2_endsUnlikeKept_X2_greatest : GoodIn wsX2_endsUnlikeKept wsX2_greatest := goodIn_r _ [8, 1, 9, 10, 11, 12, 13, 14, 15, 16, 17, 18, 19, 20, 21, 22, 23, 24, 25, 26] (by decide +kernel) (by decide +kernel)
set_option maxRecDepth 20000 in
theorem gX2_endsUnlikeKept_X2_greatest : GoodIn wsX2_endsUnlikeKept (wsV RX2 145 RX2 yX2_greatest wsX2_greatest) := goodIn_app (goodIn_of _ (by decide +kernel)) ggX2_endsUnlikeKept_X2_greatest
