set_option maxRecDepth 20000 in
theorem ggX1_hasLabel_X1_has : GoodIn wsX1_hasLabel wsX1_has := goodIn_r _ [6, 7, 8, 9, 10, 11, 12, 13, 14] (by decide +kernel) (by decide +kernel)
set_option maxRecDepth 20000 in
theorem gX1_hasLabel_X1_has : GoodIn wsX1_hasLabel (wsV RX1 34 RX1 yX1_has wsX1_has) := goodIn_app (goodIn_of _ (by decide +kernel)) ggX1_hasLabel_X1_has
