set_option maxRecDepth 20000 in
theorem ggX4_bestSaying_X4_brings : GoodIn wsX4_bestSaying wsX4_brings := goodIn_r _ [5, 6, 7, 8, 9] (by decide +kernel) (by decide +kernel)
set_option maxRecDepth 20000 in
theorem gX4_bestSaying_X4_brings : GoodIn wsX4_bestSaying (wsV RX4 18 RX4 yX4_brings wsX4_brings) := goodIn_app (goodIn_of _ (by decide +kernel)) ggX4_bestSaying_X4_brings
set_option maxRecDepth 20000 in
theorem ggX4_firstUntrue_X4_bestSaying : GoodIn wsX4_firstUntrue wsX4_bestSaying := goodIn_r _ [5, 6, 7, 8, 4, 9, 10, 11, 12, 13] (by decide +kernel) (by decide +kernel)
set_option maxRecDepth 20000 in
theorem gX4_firstUntrue_X4_bestSaying : GoodIn wsX4_firstUntrue (wsV RX4 22 RX4 yX4_bestSaying wsX4_bestSaying) := goodIn_app (goodIn_of _ (by decide +kernel)) ggX4_firstUntrue_X4_bestSaying
set_option maxRecDepth 20000 in
theorem ggX4_firstUntrue_X4_brings : GoodIn wsX4_firstUntrue wsX4_brings := goodIn_r _ [9, 10, 11, 12, 13] (by decide +kernel) (by decide +kernel)
set_option maxRecDepth 20000 in
theorem gX4_firstUntrue_X4_brings : GoodIn wsX4_firstUntrue (wsV RX4 18 RX4 yX4_brings wsX4_brings) := goodIn_app (goodIn_of _ (by decide +kernel)) ggX4_firstUntrue_X4_brings
