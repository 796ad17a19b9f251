set_option maxRecDepth 20000 in
theorem ggX3_hitAtLeast_X3_reduce : GoodIn wsX3_hitAtLeast wsX3_reduce := goodIn_r _ [7, 8, 9, 10, 11, 12, 13] (by decide +kernel) (by decide +kernel)
set_option maxRecDepth 20000 in
theorem gX3_hitAtLeast_X3_reduce : GoodIn wsX3_hitAtLeast (wsV RX3 26 RX3 yX3_reduce wsX3_reduce) := goodIn_app (goodIn_of _ (by decide +kernel)) ggX3_hitAtLeast_X3_reduce
set_option maxRecDepth 20000 in
theorem ggX3_dealtAtLeast_X3_choose : GoodIn wsX3_dealtAtLeast wsX3_choose := goodIn_r _ [4] (by decide +kernel) (by decide +kernel)
set_option maxRecDepth 20000 in
theorem gX3_dealtAtLeast_X3_choose : GoodIn wsX3_dealtAtLeast (va_wsS RX3 30 yX3_choose wsX3_choose) := goodIn_app (goodIn_of _ (by decide +kernel)) ggX3_dealtAtLeast_X3_choose
set_option maxRecDepth 20000 in
theorem ggX3_dealtAtLeast_X3_reduce : GoodIn wsX3_dealtAtLeast wsX3_reduce := goodIn_r _ [8, 9, 10, 11, 12, 13, 14] (by decide +kernel) (by decide +kernel)
set_option maxRecDepth 20000 in
theorem gX3_dealtAtLeast_X3_reduce : GoodIn wsX3_dealtAtLeast (wsV RX3 26 RX3 yX3_reduce wsX3_reduce) := goodIn_app (goodIn_of _ (by decide +kernel)) ggX3_dealtAtLeast_X3_reduce
set_option maxRecDepth 20000 in
theorem ggX3_greaterPart_X3_choose : GoodIn wsX3_greaterPart wsX3_choose := goodIn_r _ [4] (by decide +kernel) (by decide +kernel)
set_option maxRecDepth 20000 in
theorem gX3_greaterPart_X3_choose : GoodIn wsX3_greaterPart (va_wsS RX3 30 yX3_choose wsX3_choose) := goodIn_app (goodIn_of _ (by decide +kernel)) ggX3_greaterPart_X3_choose
set_option maxRecDepth 20000 in
theorem ggX3_greaterPart_X3_power : GoodIn wsX3_greaterPart wsX3_power := goodIn_r _ [7] (by decide +kernel) (by decide +kernel)
set_option maxRecDepth 20000 in
theorem gX3_greaterPart_X3_power : GoodIn wsX3_greaterPart (va_wsS RX3 34 yX3_power wsX3_power) := goodIn_app (goodIn_of _ (by decide +kernel)) ggX3_greaterPart_X3_power
