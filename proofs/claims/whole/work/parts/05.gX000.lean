set_option maxRecDepth 20000 in
theorem ggX0_countTo_X0_counts : GoodIn wsX0_countTo wsX0_counts := goodIn_r _ [6, 7, 8, 9, 10, 11, 12] (by decide +kernel) (by decide +kernel)
set_option maxRecDepth 20000 in
theorem gX0_countTo_X0_counts : GoodIn wsX0_countTo (wsV RX0 28 RX0 yX0_counts wsX0_counts) := goodIn_app (goodIn_of _ (by decide +kernel)) ggX0_countTo_X0_counts
set_option maxRecDepth 20000 in
theorem ggX0_countWith_X0_counts : GoodIn wsX0_countWith wsX0_counts := goodIn_r _ [7, 8, 2, 9, 10, 11, 12] (by decide +kernel) (by decide +kernel)
set_option maxRecDepth 20000 in
theorem gX0_countWith_X0_counts : GoodIn wsX0_countWith (wsV RX0 28 RX0 yX0_counts wsX0_counts) := goodIn_app (goodIn_of _ (by decide +kernel)) ggX0_countWith_X0_counts
