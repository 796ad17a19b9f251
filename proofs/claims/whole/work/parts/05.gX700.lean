set_option maxRecDepth 20000 in
theorem ggX7_init_X6_init : GoodIn wsX7_init wsX6_init := goodIn_r _ [12, 13, 2, 3, 8, 14, 15, 16, 17, 18, 19, 20, 21, 22] (by decide +kernel) (by decide +kernel)
set_option maxRecDepth 20000 in
theorem gX7_init_X6_init : GoodIn wsX7_init (wsX6_init) := ggX7_init_X6_init
set_option maxRecDepth 20000 in
theorem ggX7_read_X7_takes : GoodIn wsX7_read wsX7_takes := goodIn_r _ [10, 3, 11, 1, 2, 12, 13, 14, 9, 15, 16, 17, 18, 19, 20, 21, 22, 23, 24, 25, 26, 27, 28, 29, 30, 31, 32, 33, 34, 35, 36, 37, 38, 39, 40, 41, 42, 43, 44, 45, 46, 47, 48, 49, 50, 51, 52, 53, 54, 55, 56, 57, 58, 59, 60, 61, 62] (by decide +kernel) (by decide +kernel)
set_option maxRecDepth 20000 in
theorem gX7_read_X7_takes : GoodIn wsX7_read (wsV RX7 30 RX7 yX7_takes wsX7_takes) := goodIn_app (goodIn_of _ (by decide +kernel)) ggX7_read_X7_takes
set_option maxRecDepth 20000 in
theorem ggX7_takes_X7_takesName : GoodIn wsX7_takes wsX7_takesName := goodIn_r _ [9, 3, 4, 2, 10, 11, 12, 13, 14, 15, 16, 17, 18, 19, 20, 21, 22, 23, 24, 25, 26, 27, 28, 8, 29, 1, 45, 46, 47, 48, 49, 50, 51, 52, 53, 54, 55, 56] (by decide +kernel) (by decide +kernel)
set_option maxRecDepth 20000 in
theorem gX7_takes_X7_takesName : GoodIn wsX7_takes (wsV RX7 34 RX7 yX7_takesName wsX7_takesName) := goodIn_app (goodIn_of _ (by decide +kernel)) ggX7_takes_X7_takesName
set_option maxRecDepth 20000 in
theorem ggX7_takes_X7_goesOn : GoodIn wsX7_takes wsX7_goesOn := goodIn_r _ [29, 1, 45, 46, 47, 48, 49, 50, 51] (by decide +kernel) (by decide +kernel)
set_option maxRecDepth 20000 in
theorem gX7_takes_X7_goesOn : GoodIn wsX7_takes (wsV RX7 37 RX7 yX7_goesOn wsX7_goesOn) := goodIn_app (goodIn_of _ (by decide +kernel)) ggX7_takes_X7_goesOn
set_option maxRecDepth 20000 in
theorem ggX7_takes_X7_takesLabels : GoodIn wsX7_takes wsX7_takesLabels := goodIn_r _ [33, 3, 34, 2, 26, 27, 28, 8, 29, 1, 45, 46, 47, 48, 49, 50, 51, 52, 53, 54, 55, 56] (by decide +kernel) (by decide +kernel)
set_option maxRecDepth 20000 in
theorem gX7_takes_X7_takesLabels : GoodIn wsX7_takes (wsV RX7 41 RX7 yX7_takesLabels wsX7_takesLabels) := goodIn_app (goodIn_of _ (by decide +kernel)) ggX7_takes_X7_takesLabels
set_option maxRecDepth 20000 in
theorem ggX7_takes_X7_takesNeed : GoodIn wsX7_takes wsX7_takesNeed := goodIn_r _ [38, 3, 2, 10, 39, 12, 13, 14, 15, 16, 17, 26, 27, 28, 8, 29, 1, 45, 46, 47, 48, 49, 50, 51, 52, 53, 54, 55, 56] (by decide +kernel) (by decide +kernel)
set_option maxRecDepth 20000 in
theorem gX7_takes_X7_takesNeed : GoodIn wsX7_takes (wsV RX7 47 RX7 yX7_takesNeed wsX7_takesNeed) := goodIn_app (goodIn_of _ (by decide +kernel)) ggX7_takes_X7_takesNeed
set_option maxRecDepth 20000 in
theorem ggX7_takes_X7_takesDigit : GoodIn wsX7_takes wsX7_takesDigit := goodIn_r _ [43, 11, 3, 44, 2, 26, 27, 28, 8, 29, 1, 45, 46, 47, 48, 49, 50, 51, 52, 53, 54, 55, 56] (by decide +kernel) (by decide +kernel)
set_option maxRecDepth 20000 in
theorem gX7_takes_X7_takesDigit : GoodIn wsX7_takes (wsV RX7 50 RX7 yX7_takesDigit wsX7_takesDigit) := goodIn_app (goodIn_of _ (by decide +kernel)) ggX7_takes_X7_takesDigit
set_option maxRecDepth 20000 in
theorem ggX7_takesName_X6_named : GoodIn wsX7_takesName wsX6_named := goodIn_r _ [10, 11, 33, 34, 35, 36, 37] (by decide +kernel) (by decide +kernel)
set_option maxRecDepth 20000 in
theorem gX7_takesName_X6_named : GoodIn wsX7_takesName (wsV RX7 53 RX6 yX6_named wsX6_named) := goodIn_app (goodIn_of _ (by decide +kernel)) ggX7_takesName_X6_named
set_option maxRecDepth 20000 in
theorem ggX7_takesName_X6_add : GoodIn wsX7_takesName wsX6_add := goodIn_r _ [15, 11, 16, 17, 18, 19, 33, 34, 35, 36, 37] (by decide +kernel) (by decide +kernel)
set_option maxRecDepth 20000 in
theorem gX7_takesName_X6_add : GoodIn wsX7_takesName (wsV RX7 57 RX6 yX6_add wsX6_add) := goodIn_app (goodIn_of _ (by decide +kernel)) ggX7_takesName_X6_add
set_option maxRecDepth 20000 in
theorem ggX7_takesName_X7_goesOn : GoodIn wsX7_takesName wsX7_goesOn := goodIn_r _ [24, 25, 26, 27, 28, 29, 30, 31, 32] (by decide +kernel) (by decide +kernel)
set_option maxRecDepth 20000 in
theorem gX7_takesName_X7_goesOn : GoodIn wsX7_takesName (wsV RX7 37 RX7 yX7_goesOn wsX7_goesOn) := goodIn_app (goodIn_of _ (by decide +kernel)) ggX7_takesName_X7_goesOn
set_option maxRecDepth 20000 in
theorem ggX7_takesLabels_X7_goesOn : GoodIn wsX7_takesLabels wsX7_goesOn := goodIn_r _ [8, 9, 10, 11, 12, 13, 14, 15, 16] (by decide +kernel) (by decide +kernel)
set_option maxRecDepth 20000 in
theorem gX7_takesLabels_X7_goesOn : GoodIn wsX7_takesLabels (wsV RX7 37 RX7 yX7_goesOn wsX7_goesOn) := goodIn_app (goodIn_of _ (by decide +kernel)) ggX7_takesLabels_X7_goesOn
set_option maxRecDepth 20000 in
theorem ggX7_takesNeed_X6_named : GoodIn wsX7_takesNeed wsX6_named := goodIn_r _ [9, 10, 24, 25, 26, 27, 28] (by decide +kernel) (by decide +kernel)
set_option maxRecDepth 20000 in
theorem gX7_takesNeed_X6_named : GoodIn wsX7_takesNeed (wsV RX7 53 RX6 yX6_named wsX6_named) := goodIn_app (goodIn_of _ (by decide +kernel)) ggX7_takesNeed_X6_named
set_option maxRecDepth 20000 in
theorem ggX7_takesNeed_X7_goesOn : GoodIn wsX7_takesNeed wsX7_goesOn := goodIn_r _ [15, 16, 17, 18, 19, 20, 21, 22, 23] (by decide +kernel) (by decide +kernel)
set_option maxRecDepth 20000 in
theorem gX7_takesNeed_X7_goesOn : GoodIn wsX7_takesNeed (wsV RX7 37 RX7 yX7_goesOn wsX7_goesOn) := goodIn_app (goodIn_of _ (by decide +kernel)) ggX7_takesNeed_X7_goesOn
set_option maxRecDepth 20000 in
theorem ggX7_takesDigit_X7_goesOn : GoodIn wsX7_takesDigit wsX7_goesOn := goodIn_r _ [9, 10, 11, 12, 13, 14, 15, 16, 17] (by decide +kernel) (by decide +kernel)
set_option maxRecDepth 20000 in
theorem gX7_takesDigit_X7_goesOn : GoodIn wsX7_takesDigit (wsV RX7 37 RX7 yX7_goesOn wsX7_goesOn) := goodIn_app (goodIn_of _ (by decide +kernel)) ggX7_takesDigit_X7_goesOn
