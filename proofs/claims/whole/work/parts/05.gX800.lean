set_option maxRecDepth 20000 in
theorem ggX8_init_X7_init : GoodIn wsX8_init wsX7_init := goodIn_r _ [43, 44, 2, 3, 45, 9, 10, 46, 47, 48, 49, 50, 51, 52, 53, 54, 55, 56, 134, 135, 136, 137, 138, 114, 115, 116, 117, 118, 119, 120] (by decide +kernel) (by decide +kernel)
set_option maxRecDepth 20000 in
theorem gX8_init_X7_init : GoodIn wsX8_init (wsX7_init) := ggX8_init_X7_init
set_option maxRecDepth 20000 in
theorem ggX8_init_X6_init : GoodIn wsX8_init wsX6_init := goodIn_r _ [51, 52, 2, 3, 47, 53, 54, 55, 56, 134, 135, 136, 137, 138] (by decide +kernel) (by decide +kernel)
set_option maxRecDepth 20000 in
theorem gX8_init_X6_init : GoodIn wsX8_init (wsX6_init) := ggX8_init_X6_init
set_option maxRecDepth 20000 in
theorem ggX8_init_X1_init : GoodIn wsX8_init wsX1_init := goodIn_r _ [60, 61, 2, 3, 47, 62, 63, 64, 65, 66, 67, 139, 140, 141, 142, 143, 144, 145] (by decide +kernel) (by decide +kernel)
set_option maxRecDepth 20000 in
theorem gX8_init_X1_init : GoodIn wsX8_init (wsX1_init) := ggX8_init_X1_init
set_option maxRecDepth 20000 in
theorem ggX8_init_X0_init : GoodIn wsX8_init wsX0_init := goodIn_r _ [70, 71, 2, 3, 72, 73, 47, 74, 75, 76, 146, 147, 148, 149] (by decide +kernel) (by decide +kernel)
set_option maxRecDepth 20000 in
theorem gX8_init_X0_init : GoodIn wsX8_init (wsX0_init) := ggX8_init_X0_init
set_option maxRecDepth 20000 in
theorem ggX8_init_X5_init : GoodIn wsX8_init wsX5_init := goodIn_r _ [79, 80, 2, 3, 81, 47, 82, 83, 84, 85, 86, 150] (by decide +kernel) (by decide +kernel)
set_option maxRecDepth 20000 in
theorem gX8_init_X5_init : GoodIn wsX8_init (wsX5_init) := ggX8_init_X5_init
set_option maxRecDepth 20000 in
theorem ggX8_init_X2_init : GoodIn wsX8_init wsX2_init := goodIn_r _ [89, 90, 2, 3, 91, 92, 93, 94, 47, 95, 96, 97, 98, 99, 100, 101, 151, 152, 153, 154, 155, 156, 157, 158, 159] (by decide +kernel) (by decide +kernel)
set_option maxRecDepth 20000 in
theorem gX8_init_X2_init : GoodIn wsX8_init (wsX2_init) := ggX8_init_X2_init
set_option maxRecDepth 20000 in
theorem ggX8_init_X3_init : GoodIn wsX8_init wsX3_init := goodIn_r _ [104, 105, 2, 3, 106, 97, 107, 160, 161, 162, 163] (by decide +kernel) (by decide +kernel)
set_option maxRecDepth 20000 in
theorem gX8_init_X3_init : GoodIn wsX8_init (wsX3_init) := ggX8_init_X3_init
set_option maxRecDepth 20000 in
theorem ggX8_init_X4_init : GoodIn wsX8_init wsX4_init := goodIn_r _ [110, 111, 2, 3, 47, 112, 113, 164, 165] (by decide +kernel) (by decide +kernel)
set_option maxRecDepth 20000 in
theorem gX8_init_X4_init : GoodIn wsX8_init (wsX4_init) := ggX8_init_X4_init
set_option maxRecDepth 20000 in
theorem ggX8_say_X7_add : GoodIn wsX8_say wsX7_add := goodIn_r _ [7, 8, 9, 23, 24, 25, 26, 27, 28, 29] (by decide +kernel) (by decide +kernel)
set_option maxRecDepth 20000 in
theorem gX8_say_X7_add : GoodIn wsX8_say (wsV RX8 83 RX7 yX7_add wsX7_add) := goodIn_app (goodIn_of _ (by decide +kernel)) ggX8_say_X7_add
set_option maxRecDepth 20000 in
theorem ggX8_fault_X7_read : GoodIn wsX8_fault wsX7_read := goodIn_r _ [6, 7, 8, 9, 10, 11, 12, 13, 14, 5, 15, 16, 17, 18, 19, 20, 21, 22, 23, 24, 25, 26, 27, 28, 29, 30, 31, 32, 33, 34, 35, 36, 37, 38, 39, 40, 41, 42, 43, 44, 45, 46, 47, 48, 49, 50, 51, 52, 53, 54, 55, 69, 70, 71, 72, 73, 74, 75, 76, 77, 78, 79, 80] (by decide +kernel) (by decide +kernel)
set_option maxRecDepth 20000 in
theorem gX8_fault_X7_read : GoodIn wsX8_fault (wsV RX8 90 RX7 yX7_read wsX7_read) := goodIn_app (goodIn_of _ (by decide +kernel)) ggX8_fault_X7_read
set_option maxRecDepth 20000 in
theorem ggX8_task_X7_read : GoodIn wsX8_task wsX7_read := goodIn_r _ [15, 16, 17, 18, 19, 20, 21, 22, 23, 14, 24, 25, 26, 27, 28, 29, 30, 31, 32, 33, 34, 35, 36, 37, 38, 39, 40, 41, 42, 43, 44, 45, 46, 47, 48, 49, 50, 51, 52, 53, 54, 55, 56, 57, 58, 59, 60, 61, 62, 63, 64, 86, 87, 88, 89, 90, 91, 92, 104, 105, 106, 107, 108] (by decide +kernel) (by decide +kernel)
set_option maxRecDepth 20000 in
theorem gX8_task_X7_read : GoodIn wsX8_task (wsV RX8 90 RX7 yX7_read wsX7_read) := goodIn_app (goodIn_of _ (by decide +kernel)) ggX8_task_X7_read
set_option maxRecDepth 20000 in
theorem ggX8_task_X6_copy : GoodIn wsX8_task wsX6_copy := goodIn_r _ [68, 42, 37, 69, 70, 71, 72, 43, 44, 45, 104, 105, 106, 107, 108] (by decide +kernel) (by decide +kernel)
set_option maxRecDepth 20000 in
theorem gX8_task_X6_copy : GoodIn wsX8_task (wsV RX8 97 RX6 yX6_copy wsX6_copy) := goodIn_app (goodIn_of _ (by decide +kernel)) ggX8_task_X6_copy
set_option maxRecDepth 20000 in
theorem ggX8_step_X6_has : GoodIn wsX8_step wsX6_has := goodIn_r _ [10, 11, 25, 26, 27, 28, 29] (by decide +kernel) (by decide +kernel)
set_option maxRecDepth 20000 in
theorem gX8_step_X6_has : GoodIn wsX8_step (wsV RX8 104 RX6 yX6_has wsX6_has) := goodIn_app (goodIn_of _ (by decide +kernel)) ggX8_step_X6_has
set_option maxRecDepth 20000 in
theorem ggX8_item_X6_has : GoodIn wsX8_item wsX6_has := goodIn_r _ [10, 11, 60, 61, 62, 63, 64] (by decide +kernel) (by decide +kernel)
set_option maxRecDepth 20000 in
theorem gX8_item_X6_has : GoodIn wsX8_item (wsV RX8 104 RX6 yX6_has wsX6_has) := goodIn_app (goodIn_of _ (by decide +kernel)) ggX8_item_X6_has
set_option maxRecDepth 20000 in
theorem ggX8_item_X1_find : GoodIn wsX8_item wsX1_find := goodIn_r _ [16, 17, 18, 19, 53, 54, 55, 56, 57, 58, 59] (by decide +kernel) (by decide +kernel)
set_option maxRecDepth 20000 in
theorem gX8_item_X1_find : GoodIn wsX8_item (wsV RX8 120 RX1 yX1_find wsX1_find) := goodIn_app (goodIn_of _ (by decide +kernel)) ggX8_item_X1_find
set_option maxRecDepth 20000 in
theorem ggX8_item_X1_add : GoodIn wsX8_item wsX1_add := goodIn_r _ [23, 17, 18, 19, 24, 25, 26, 27, 53, 54, 55, 56, 57, 58, 59] (by decide +kernel) (by decide +kernel)
set_option maxRecDepth 20000 in
theorem gX8_item_X1_add : GoodIn wsX8_item (wsV RX8 124 RX1 yX1_add wsX1_add) := goodIn_app (goodIn_of _ (by decide +kernel)) ggX8_item_X1_add
set_option maxRecDepth 20000 in
theorem ggX8_item_X2_startAlike : GoodIn wsX8_item wsX2_startAlike := goodIn_r _ [32, 33, 34, 35, 36, 37, 31, 38, 39, 65, 66, 67, 68, 69, 70, 71, 72, 73, 53, 54, 55, 56, 57, 58, 59] (by decide +kernel) (by decide +kernel)
set_option maxRecDepth 20000 in
theorem gX8_item_X2_startAlike : GoodIn wsX8_item (wsV RX8 127 RX2 yX2_startAlike wsX2_startAlike) := goodIn_app (goodIn_of _ (by decide +kernel)) ggX8_item_X2_startAlike
set_option maxRecDepth 20000 in
theorem ggX8_known_X1_hasLabel : GoodIn wsX8_known wsX1_hasLabel := goodIn_r _ [9, 10, 11, 12, 13, 8, 14, 15, 55, 56, 57, 58, 59, 60, 61] (by decide +kernel) (by decide +kernel)
set_option maxRecDepth 20000 in
theorem gX8_known_X1_hasLabel : GoodIn wsX8_known (wsV RX8 131 RX1 yX1_hasLabel wsX1_hasLabel) := goodIn_app (goodIn_of _ (by decide +kernel)) ggX8_known_X1_hasLabel
set_option maxRecDepth 20000 in
theorem ggX8_known_X0_anySaid : GoodIn wsX8_known wsX0_anySaid := goodIn_r _ [20, 21, 22, 62, 63, 64, 65] (by decide +kernel) (by decide +kernel)
set_option maxRecDepth 20000 in
theorem gX8_known_X0_anySaid : GoodIn wsX8_known (wsV RX8 135 RX0 yX0_anySaid wsX0_anySaid) := goodIn_app (goodIn_of _ (by decide +kernel)) ggX8_known_X0_anySaid
set_option maxRecDepth 20000 in
theorem ggX8_known_X1_isFree : GoodIn wsX8_known wsX1_isFree := goodIn_r _ [26, 27, 28, 55, 56, 57, 58, 59, 60, 61] (by decide +kernel) (by decide +kernel)
set_option maxRecDepth 20000 in
theorem gX8_known_X1_isFree : GoodIn wsX8_known (wsV RX8 138 RX1 yX1_isFree wsX1_isFree) := goodIn_app (goodIn_of _ (by decide +kernel)) ggX8_known_X1_isFree
set_option maxRecDepth 20000 in
theorem ggX8_known_X2_startGiven : GoodIn wsX8_known wsX2_startGiven := goodIn_r _ [33, 34, 35, 36, 37, 38, 39, 40, 8, 41, 27, 28, 66, 67, 68, 69, 70, 71, 72, 73, 74, 55, 56, 57, 58, 59, 60, 61] (by decide +kernel) (by decide +kernel)
set_option maxRecDepth 20000 in
theorem gX8_known_X2_startGiven : GoodIn wsX8_known (wsV RX8 144 RX2 yX2_startGiven wsX2_startGiven) := goodIn_app (goodIn_of _ (by decide +kernel)) ggX8_known_X2_startGiven
set_option maxRecDepth 20000 in
theorem ggX8_settle_X1_hasLabel : GoodIn wsX8_settle wsX1_hasLabel := goodIn_r _ [9, 10, 11, 12, 13, 8, 14, 15, 44, 45, 46, 47, 48, 49, 50] (by decide +kernel) (by decide +kernel)
set_option maxRecDepth 20000 in
theorem gX8_settle_X1_hasLabel : GoodIn wsX8_settle (wsV RX8 131 RX1 yX1_hasLabel wsX1_hasLabel) := goodIn_app (goodIn_of _ (by decide +kernel)) ggX8_settle_X1_hasLabel
set_option maxRecDepth 20000 in
theorem ggX8_settle_X2_startGiven : GoodIn wsX8_settle wsX2_startGiven := goodIn_r _ [20, 21, 22, 23, 24, 25, 26, 27, 8, 28, 29, 30, 51, 52, 53, 54, 55, 56, 57, 58, 59, 44, 45, 46, 47, 48, 49, 50] (by decide +kernel) (by decide +kernel)
set_option maxRecDepth 20000 in
theorem gX8_settle_X2_startGiven : GoodIn wsX8_settle (wsV RX8 144 RX2 yX2_startGiven wsX2_startGiven) := goodIn_app (goodIn_of _ (by decide +kernel)) ggX8_settle_X2_startGiven
set_option maxRecDepth 20000 in
theorem ggX8_show_X1_has : GoodIn wsX8_show wsX1_has := goodIn_r _ [7, 8, 22, 23, 24, 25, 26, 27, 28] (by decide +kernel) (by decide +kernel)
set_option maxRecDepth 20000 in
theorem gX8_show_X1_has : GoodIn wsX8_show (wsV RX8 150 RX1 yX1_has wsX1_has) := goodIn_app (goodIn_of _ (by decide +kernel)) ggX8_show_X1_has
set_option maxRecDepth 20000 in
theorem ggX8_ofItem_X1_has : GoodIn wsX8_ofItem wsX1_has := goodIn_r _ [14, 15, 69, 70, 71, 72, 73, 74, 75] (by decide +kernel) (by decide +kernel)
set_option maxRecDepth 20000 in
theorem gX8_ofItem_X1_has : GoodIn wsX8_ofItem (wsV RX8 150 RX1 yX1_has wsX1_has) := goodIn_app (goodIn_of _ (by decide +kernel)) ggX8_ofItem_X1_has
set_option maxRecDepth 20000 in
theorem ggX8_ofItem_X8_isOpen : GoodIn wsX8_ofItem wsX8_isOpen := goodIn_r _ [20, 1, 2, 21, 22, 23, 3, 24, 25, 26, 27, 13, 28, 15, 29, 30, 31, 32, 33, 19, 34, 8, 35, 36, 37, 38, 39, 40, 41, 42, 43, 56, 57, 58, 59, 60, 61, 62, 63, 64, 65, 66, 67, 68, 69, 70, 71, 72, 73, 74, 75, 76, 77, 78, 79, 80, 81, 82, 83, 84, 85, 86, 87, 88, 89] (by decide +kernel) (by decide +kernel)
set_option maxRecDepth 20000 in
theorem gX8_ofItem_X8_isOpen : GoodIn wsX8_ofItem (wsV RX8 161 RX8 yX8_isOpen wsX8_isOpen) := goodIn_app (goodIn_of _ (by decide +kernel)) ggX8_ofItem_X8_isOpen
set_option maxRecDepth 20000 in
theorem ggX8_ofItem_X0_countTo : GoodIn wsX8_ofItem wsX0_countTo := goodIn_r _ [48, 49, 50, 51, 52, 47, 53, 54, 55, 90, 91, 92, 93] (by decide +kernel) (by decide +kernel)
set_option maxRecDepth 20000 in
theorem gX8_ofItem_X0_countTo : GoodIn wsX8_ofItem (wsV RX8 164 RX0 yX0_countTo wsX0_countTo) := goodIn_app (goodIn_of _ (by decide +kernel)) ggX8_ofItem_X0_countTo
set_option maxRecDepth 20000 in
theorem ggX8_ofItem_X2_greatest : GoodIn wsX8_ofItem wsX2_greatest := goodIn_r _ [40, 41, 42, 43, 81, 82, 83, 84, 85, 86, 87, 88, 89, 69, 70, 71, 72, 73, 74, 75] (by decide +kernel) (by decide +kernel)
set_option maxRecDepth 20000 in
theorem gX8_ofItem_X2_greatest : GoodIn wsX8_ofItem (wsV RX8 168 RX2 yX2_greatest wsX2_greatest) := goodIn_app (goodIn_of _ (by decide +kernel)) ggX8_ofItem_X2_greatest
set_option maxRecDepth 20000 in
theorem ggX8_ofItem_X8_sureOf : GoodIn wsX8_ofItem wsX8_sureOf := goodIn_r _ [34, 8, 35, 36, 37, 38, 39, 40, 41, 42, 43, 56, 57, 58, 59, 60, 61, 62, 63, 64, 65, 66, 67, 68, 81, 82, 83, 84, 85, 86, 87, 88, 89, 69, 70, 71, 72, 73, 74, 75] (by decide +kernel) (by decide +kernel)
set_option maxRecDepth 20000 in
theorem gX8_ofItem_X8_sureOf : GoodIn wsX8_ofItem (wsV RX8 171 RX8 yX8_sureOf wsX8_sureOf) := goodIn_app (goodIn_of _ (by decide +kernel)) ggX8_ofItem_X8_sureOf
set_option maxRecDepth 20000 in
theorem ggX8_hand_X0_add : GoodIn wsX8_hand wsX0_add := goodIn_r _ [7, 8, 9, 10, 11, 25, 26, 27, 28] (by decide +kernel) (by decide +kernel)
set_option maxRecDepth 20000 in
theorem gX8_hand_X0_add : GoodIn wsX8_hand (wsV RX8 174 RX0 yX0_add wsX0_add) := goodIn_app (goodIn_of _ (by decide +kernel)) ggX8_hand_X0_add
set_option maxRecDepth 20000 in
theorem ggX8_out_X0_has : GoodIn wsX8_out wsX0_has := goodIn_r _ [7, 8, 22, 23, 24, 25] (by decide +kernel) (by decide +kernel)
set_option maxRecDepth 20000 in
theorem gX8_out_X0_has : GoodIn wsX8_out (wsV RX8 176 RX0 yX0_has wsX0_has) := goodIn_app (goodIn_of _ (by decide +kernel)) ggX8_out_X0_has
set_option maxRecDepth 20000 in
theorem ggX8_answer_X0_has : GoodIn wsX8_answer wsX0_has := goodIn_r _ [9, 10, 66, 67, 68, 69] (by decide +kernel) (by decide +kernel)
set_option maxRecDepth 20000 in
theorem gX8_answer_X0_has : GoodIn wsX8_answer (wsV RX8 176 RX0 yX0_has wsX0_has) := goodIn_app (goodIn_of _ (by decide +kernel)) ggX8_answer_X0_has
set_option maxRecDepth 20000 in
theorem ggX8_answer_X1_hasLabel : GoodIn wsX8_answer wsX1_hasLabel := goodIn_r _ [15, 16, 17, 18, 19, 14, 20, 21, 70, 71, 72, 73, 74, 75, 76] (by decide +kernel) (by decide +kernel)
set_option maxRecDepth 20000 in
theorem gX8_answer_X1_hasLabel : GoodIn wsX8_answer (wsV RX8 131 RX1 yX1_hasLabel wsX1_hasLabel) := goodIn_app (goodIn_of _ (by decide +kernel)) ggX8_answer_X1_hasLabel
set_option maxRecDepth 20000 in
theorem ggX8_answer_X8_isOpen : GoodIn wsX8_answer wsX8_isOpen := goodIn_r _ [26, 2, 27, 28, 29, 30, 31, 32, 33, 34, 35, 14, 36, 21, 37, 38, 39, 40, 41, 25, 42, 43, 44, 45, 46, 47, 48, 49, 50, 51, 52, 53, 54, 55, 56, 57, 58, 59, 60, 61, 62, 63, 64, 65, 70, 71, 72, 73, 74, 75, 76, 77, 78, 79, 80, 81, 82, 83, 84, 85, 86, 87, 88, 89, 90] (by decide +kernel) (by decide +kernel)
set_option maxRecDepth 20000 in
theorem gX8_answer_X8_isOpen : GoodIn wsX8_answer (wsV RX8 161 RX8 yX8_isOpen wsX8_isOpen) := goodIn_app (goodIn_of _ (by decide +kernel)) ggX8_answer_X8_isOpen
set_option maxRecDepth 20000 in
theorem ggX8_back_X0_has : GoodIn wsX8_back wsX0_has := goodIn_r _ [8, 9, 29, 30, 31, 32] (by decide +kernel) (by decide +kernel)
set_option maxRecDepth 20000 in
theorem gX8_back_X0_has : GoodIn wsX8_back (wsV RX8 176 RX0 yX0_has wsX0_has) := goodIn_app (goodIn_of _ (by decide +kernel)) ggX8_back_X0_has
set_option maxRecDepth 20000 in
theorem ggX8_back_X1_has : GoodIn wsX8_back wsX1_has := goodIn_r _ [14, 15, 33, 34, 35, 36, 37, 38, 39] (by decide +kernel) (by decide +kernel)
set_option maxRecDepth 20000 in
theorem gX8_back_X1_has : GoodIn wsX8_back (wsV RX8 150 RX1 yX1_has wsX1_has) := goodIn_app (goodIn_of _ (by decide +kernel)) ggX8_back_X1_has
set_option maxRecDepth 20000 in
theorem ggX8_said_X0_has : GoodIn wsX8_said wsX0_has := goodIn_r _ [8, 9, 29, 30, 31, 32] (by decide +kernel) (by decide +kernel)
set_option maxRecDepth 20000 in
theorem gX8_said_X0_has : GoodIn wsX8_said (wsV RX8 176 RX0 yX0_has wsX0_has) := goodIn_app (goodIn_of _ (by decide +kernel)) ggX8_said_X0_has
set_option maxRecDepth 20000 in
theorem ggX8_said_X1_has : GoodIn wsX8_said wsX1_has := goodIn_r _ [14, 15, 33, 34, 35, 36, 37, 38, 39] (by decide +kernel) (by decide +kernel)
set_option maxRecDepth 20000 in
theorem gX8_said_X1_has : GoodIn wsX8_said (wsV RX8 150 RX1 yX1_has wsX1_has) := goodIn_app (goodIn_of _ (by decide +kernel)) ggX8_said_X1_has
set_option maxRecDepth 20000 in
theorem ggX8_set_X5_allows : GoodIn wsX8_set wsX5_allows := goodIn_r _ [6, 7, 8, 9] (by decide +kernel) (by decide +kernel)
set_option maxRecDepth 20000 in
theorem gX8_set_X5_allows : GoodIn wsX8_set (va_wsS RX8 185 yX5_allows wsX5_allows) := goodIn_app (goodIn_of _ (by decide +kernel)) ggX8_set_X5_allows
set_option maxRecDepth 20000 in
theorem ggX8_join_X2_run : GoodIn wsX8_join wsX2_run := goodIn_r _ [9, 10, 11, 12, 13, 14, 15, 16, 17, 18, 8, 19, 20, 21, 22, 23, 24, 25, 26, 27, 28, 29, 30, 31, 32, 33, 34, 35, 36, 37, 38, 39, 40, 41, 42, 43, 44, 45, 46, 47, 48, 49, 50, 51, 52, 53, 54, 55, 56, 57, 58, 59, 60, 61, 62, 63, 64, 65, 66, 67, 68, 69, 70, 71, 72, 73, 74, 75, 76, 77, 78, 79, 80, 81, 82, 83, 84, 85, 86, 87, 88, 89, 90, 91, 92, 93, 94, 95, 96, 97, 98, 99, 100, 101, 102, 103, 104, 105, 106, 107, 108, 109, 110, 111, 129, 130, 131, 132, 133, 134, 135, 136, 137, 138, 139, 140, 141, 142, 143, 144, 145, 125, 126, 127, 128] (by decide +kernel) (by decide +kernel)
set_option maxRecDepth 20000 in
theorem gX8_join_X2_run : GoodIn wsX8_join (wsV RX8 191 RX2 yX2_run wsX2_run) := goodIn_app (goodIn_of _ (by decide +kernel)) ggX8_join_X2_run
set_option maxRecDepth 20000 in
theorem ggX8_share_X1_hasLabel : GoodIn wsX8_share wsX1_hasLabel := goodIn_r _ [8, 9, 10, 11, 12, 7, 13, 14, 37, 38, 39, 40, 41, 42, 43] (by decide +kernel) (by decide +kernel)
set_option maxRecDepth 20000 in
theorem gX8_share_X1_hasLabel : GoodIn wsX8_share (wsV RX8 131 RX1 yX1_hasLabel wsX1_hasLabel) := goodIn_app (goodIn_of _ (by decide +kernel)) ggX8_share_X1_hasLabel
set_option maxRecDepth 20000 in
theorem ggX8_table_X0_has : GoodIn wsX8_table wsX0_has := goodIn_r _ [9, 10, 37, 38, 39, 40] (by decide +kernel) (by decide +kernel)
set_option maxRecDepth 20000 in
theorem gX8_table_X0_has : GoodIn wsX8_table (wsV RX8 176 RX0 yX0_has wsX0_has) := goodIn_app (goodIn_of _ (by decide +kernel)) ggX8_table_X0_has
set_option maxRecDepth 20000 in
theorem ggX8_table_X2_spot : GoodIn wsX8_table wsX2_spot := goodIn_r _ [14] (by decide +kernel) (by decide +kernel)
set_option maxRecDepth 20000 in
theorem gX8_table_X2_spot : GoodIn wsX8_table (va_wsS RX8 200 yX2_spot wsX2_spot) := goodIn_app (goodIn_of _ (by decide +kernel)) ggX8_table_X2_spot
set_option maxRecDepth 20000 in
theorem ggX8_next_X8_seekHelp : GoodIn wsX8_next wsX8_seekHelp := goodIn_r _ [11, 4, 5, 6, 12, 13, 14, 15, 16, 17, 18, 19, 20, 21, 22, 23, 10, 24, 25, 26, 27, 28, 29, 30, 31, 32, 33, 34, 35, 36, 37, 38, 39, 40, 41, 42, 43, 44, 45, 46, 47, 48, 49, 50, 51, 52, 53, 54, 55, 2, 3, 56, 57, 58, 59, 60, 61, 62, 63, 64, 65, 66, 67, 68, 69, 70, 71, 72, 73, 74, 75, 76, 77, 78, 79, 80, 81, 82, 83, 84, 89, 90, 91, 92, 93, 94, 95, 96, 97, 98, 99, 100, 101, 102, 103, 104, 105, 106, 107, 108, 109, 85, 86, 87, 88] (by decide +kernel) (by decide +kernel)
set_option maxRecDepth 20000 in
theorem gX8_next_X8_seekHelp : GoodIn wsX8_next (wsV RX8 203 RX8 yX8_seekHelp wsX8_seekHelp) := goodIn_app (goodIn_of _ (by decide +kernel)) ggX8_next_X8_seekHelp
set_option maxRecDepth 20000 in
theorem ggX8_right_X0_has : GoodIn wsX8_right wsX0_has := goodIn_r _ [7, 8, 53, 54, 55, 56] (by decide +kernel) (by decide +kernel)
set_option maxRecDepth 20000 in
theorem gX8_right_X0_has : GoodIn wsX8_right (wsV RX8 176 RX0 yX0_has wsX0_has) := goodIn_app (goodIn_of _ (by decide +kernel)) ggX8_right_X0_has
set_option maxRecDepth 20000 in
theorem ggX8_right_X8_answersOf : GoodIn wsX8_right wsX8_answersOf := goodIn_r _ [13, 14, 15, 1, 16, 17, 18, 6, 19, 20, 21, 40, 41, 42, 43, 44, 45, 46, 47, 48, 49, 50, 51, 52, 57, 58, 59, 60, 61, 62, 63, 53, 54, 55, 56] (by decide +kernel) (by decide +kernel)
set_option maxRecDepth 20000 in
theorem gX8_right_X8_answersOf : GoodIn wsX8_right (wsV RX8 206 RX8 yX8_answersOf wsX8_answersOf) := goodIn_app (goodIn_of _ (by decide +kernel)) ggX8_right_X8_answersOf
set_option maxRecDepth 20000 in
theorem ggX8_right_X8_answersToKnown : GoodIn wsX8_right wsX8_answersToKnown := goodIn_r _ [25, 14, 15, 26, 27, 28, 12, 29, 1, 30, 16, 17, 18, 6, 19, 20, 21, 40, 41, 42, 43, 44, 45, 46, 47, 48, 49, 50, 51, 52, 57, 58, 59, 60, 61, 62, 63, 53, 54, 55, 56] (by decide +kernel) (by decide +kernel)
set_option maxRecDepth 20000 in
theorem gX8_right_X8_answersToKnown : GoodIn wsX8_right (wsV RX8 209 RX8 yX8_answersToKnown wsX8_answersToKnown) := goodIn_app (goodIn_of _ (by decide +kernel)) ggX8_right_X8_answersToKnown
set_option maxRecDepth 20000 in
theorem ggX8_right_X8_rightOf : GoodIn wsX8_right wsX8_rightOf := goodIn_r _ [34, 14, 15, 35, 36, 37, 12, 38, 1, 39, 30, 26, 27, 28, 29, 16, 17, 18, 6, 19, 20, 21, 40, 41, 42, 43, 44, 45, 46, 47, 48, 49, 50, 51, 52, 57, 58, 59, 60, 61, 62, 63, 53, 54, 55, 56] (by decide +kernel) (by decide +kernel)
set_option maxRecDepth 20000 in
theorem gX8_right_X8_rightOf : GoodIn wsX8_right (wsV RX8 212 RX8 yX8_rightOf wsX8_rightOf) := goodIn_app (goodIn_of _ (by decide +kernel)) ggX8_right_X8_rightOf
set_option maxRecDepth 20000 in
theorem ggX8_guessing_X0_has : GoodIn wsX8_guessing wsX0_has := goodIn_r _ [12, 13, 80, 81, 82, 83] (by decide +kernel) (by decide +kernel)
set_option maxRecDepth 20000 in
theorem gX8_guessing_X0_has : GoodIn wsX8_guessing (wsV RX8 176 RX0 yX0_has wsX0_has) := goodIn_app (goodIn_of _ (by decide +kernel)) ggX8_guessing_X0_has
set_option maxRecDepth 20000 in
theorem ggX8_guessing_X3_begin : GoodIn wsX8_guessing wsX3_begin := goodIn_r _ [18, 19, 20, 84, 85, 86, 87] (by decide +kernel) (by decide +kernel)
set_option maxRecDepth 20000 in
theorem gX8_guessing_X3_begin : GoodIn wsX8_guessing (wsV RX8 222 RX3 yX3_begin wsX3_begin) := goodIn_app (goodIn_of _ (by decide +kernel)) ggX8_guessing_X3_begin
set_option maxRecDepth 20000 in
theorem ggX8_guessing_X8_isToKnown : GoodIn wsX8_guessing wsX8_isToKnown := goodIn_r _ [25, 1, 5, 26, 27, 28, 29, 11, 30, 31, 32, 60, 61, 62, 63, 64, 65, 66, 67, 68, 69, 70, 71, 72, 73, 74, 75, 76, 77, 78, 79, 80, 81, 82, 83] (by decide +kernel) (by decide +kernel)
set_option maxRecDepth 20000 in
theorem gX8_guessing_X8_isToKnown : GoodIn wsX8_guessing (wsV RX8 225 RX8 yX8_isToKnown wsX8_isToKnown) := goodIn_app (goodIn_of _ (by decide +kernel)) ggX8_guessing_X8_isToKnown
set_option maxRecDepth 20000 in
theorem ggX8_guessing_X3_draw : GoodIn wsX8_guessing wsX3_draw := goodIn_r _ [36, 19, 20, 84, 85, 86, 87] (by decide +kernel) (by decide +kernel)
set_option maxRecDepth 20000 in
theorem gX8_guessing_X3_draw : GoodIn wsX8_guessing (wsV RX8 228 RX3 yX3_draw wsX3_draw) := goodIn_app (goodIn_of _ (by decide +kernel)) ggX8_guessing_X3_draw
set_option maxRecDepth 20000 in
theorem ggX8_guessing_X8_rightOf : GoodIn wsX8_guessing wsX8_rightOf := goodIn_r _ [40, 5, 6, 41, 42, 43, 24, 44, 1, 45, 26, 21, 22, 23, 25, 27, 28, 29, 11, 30, 31, 32, 60, 61, 62, 63, 64, 65, 66, 67, 68, 69, 70, 71, 72, 73, 74, 75, 76, 77, 78, 79, 80, 81, 82, 83] (by decide +kernel) (by decide +kernel)
set_option maxRecDepth 20000 in
theorem gX8_guessing_X8_rightOf : GoodIn wsX8_guessing (wsV RX8 212 RX8 yX8_rightOf wsX8_rightOf) := goodIn_app (goodIn_of _ (by decide +kernel)) ggX8_guessing_X8_rightOf
set_option maxRecDepth 20000 in
theorem ggX8_guessing_X3_hitAtLeast : GoodIn wsX8_guessing wsX3_hitAtLeast := goodIn_r _ [49, 19, 20, 50, 51, 52, 17, 53, 54, 55, 84, 85, 86, 87] (by decide +kernel) (by decide +kernel)
set_option maxRecDepth 20000 in
theorem gX8_guessing_X3_hitAtLeast : GoodIn wsX8_guessing (wsV RX8 231 RX3 yX3_hitAtLeast wsX3_hitAtLeast) := goodIn_app (goodIn_of _ (by decide +kernel)) ggX8_guessing_X3_hitAtLeast
set_option maxRecDepth 20000 in
theorem ggX8_guessing_X3_part : GoodIn wsX8_guessing wsX3_part := goodIn_r _ [59, 54, 55, 84, 85, 86, 87] (by decide +kernel) (by decide +kernel)
set_option maxRecDepth 20000 in
theorem gX8_guessing_X3_part : GoodIn wsX8_guessing (wsV RX8 234 RX3 yX3_part wsX3_part) := goodIn_app (goodIn_of _ (by decide +kernel)) ggX8_guessing_X3_part
set_option maxRecDepth 20000 in
theorem ggX8_copying_X0_has : GoodIn wsX8_copying wsX0_has := goodIn_r _ [14, 15, 71, 72, 73, 74] (by decide +kernel) (by decide +kernel)
set_option maxRecDepth 20000 in
theorem gX8_copying_X0_has : GoodIn wsX8_copying (wsV RX8 176 RX0 yX0_has wsX0_has) := goodIn_app (goodIn_of _ (by decide +kernel)) ggX8_copying_X0_has
set_option maxRecDepth 20000 in
theorem ggX8_copying_X3_begin : GoodIn wsX8_copying wsX3_begin := goodIn_r _ [20, 21, 22, 67, 68, 69, 70] (by decide +kernel) (by decide +kernel)
set_option maxRecDepth 20000 in
theorem gX8_copying_X3_begin : GoodIn wsX8_copying (wsV RX8 222 RX3 yX3_begin wsX3_begin) := goodIn_app (goodIn_of _ (by decide +kernel)) ggX8_copying_X3_begin
set_option maxRecDepth 20000 in
theorem ggX8_copying_X0_counts : GoodIn wsX8_copying wsX0_counts := goodIn_r _ [26, 27, 28, 71, 72, 73, 74] (by decide +kernel) (by decide +kernel)
set_option maxRecDepth 20000 in
theorem gX8_copying_X0_counts : GoodIn wsX8_copying (wsV RX8 241 RX0 yX0_counts wsX0_counts) := goodIn_app (goodIn_of _ (by decide +kernel)) ggX8_copying_X0_counts
set_option maxRecDepth 20000 in
theorem ggX8_copying_X3_draw : GoodIn wsX8_copying wsX3_draw := goodIn_r _ [32, 21, 22, 67, 68, 69, 70] (by decide +kernel) (by decide +kernel)
set_option maxRecDepth 20000 in
theorem gX8_copying_X3_draw : GoodIn wsX8_copying (wsV RX8 228 RX3 yX3_draw wsX3_draw) := goodIn_app (goodIn_of _ (by decide +kernel)) ggX8_copying_X3_draw
set_option maxRecDepth 20000 in
theorem ggX8_copying_X3_hitAtLeast : GoodIn wsX8_copying wsX3_hitAtLeast := goodIn_r _ [36, 21, 22, 37, 38, 39, 19, 40, 41, 42, 67, 68, 69, 70] (by decide +kernel) (by decide +kernel)
set_option maxRecDepth 20000 in
theorem gX8_copying_X3_hitAtLeast : GoodIn wsX8_copying (wsV RX8 231 RX3 yX3_hitAtLeast wsX3_hitAtLeast) := goodIn_app (goodIn_of _ (by decide +kernel)) ggX8_copying_X3_hitAtLeast
set_option maxRecDepth 20000 in
theorem ggX8_copying_X3_part : GoodIn wsX8_copying wsX3_part := goodIn_r _ [46, 41, 42, 67, 68, 69, 70] (by decide +kernel) (by decide +kernel)
set_option maxRecDepth 20000 in
theorem gX8_copying_X3_part : GoodIn wsX8_copying (wsV RX8 234 RX3 yX3_part wsX3_part) := goodIn_app (goodIn_of _ (by decide +kernel)) ggX8_copying_X3_part
set_option maxRecDepth 20000 in
theorem ggX8_misread_X8_isMisread : GoodIn wsX8_misread wsX8_isMisread := goodIn_r _ [9, 1, 10, 3, 11, 12, 13, 14, 15, 16, 17, 18, 19, 20, 21, 22, 23, 24, 25, 26, 27, 28, 29, 30, 31, 32, 33, 34, 35, 36, 37, 38, 39, 40, 41, 42, 43, 44, 45, 46, 47] (by decide +kernel) (by decide +kernel)
set_option maxRecDepth 20000 in
theorem gX8_misread_X8_isMisread : GoodIn wsX8_misread (wsV RX8 244 RX8 yX8_isMisread wsX8_isMisread) := goodIn_app (goodIn_of _ (by decide +kernel)) ggX8_misread_X8_isMisread
set_option maxRecDepth 20000 in
theorem ggX8_better_X8_isToKnown : GoodIn wsX8_better wsX8_isToKnown := goodIn_r _ [12, 2, 4, 13, 14, 15, 16, 17, 18, 19, 20, 44, 45, 46, 47, 48, 49, 50, 51, 52, 53, 54, 55, 56, 61, 62, 63, 64, 65, 66, 67, 57, 58, 59, 60] (by decide +kernel) (by decide +kernel)
set_option maxRecDepth 20000 in
theorem gX8_better_X8_isToKnown : GoodIn wsX8_better (wsV RX8 225 RX8 yX8_isToKnown wsX8_isToKnown) := goodIn_app (goodIn_of _ (by decide +kernel)) ggX8_better_X8_isToKnown
set_option maxRecDepth 20000 in
theorem ggX8_better_X8_isRight : GoodIn wsX8_better wsX8_isRight := goodIn_r _ [24, 2, 25, 4, 13, 8, 9, 10, 11, 12, 14, 15, 16, 17, 18, 19, 20, 44, 45, 46, 47, 48, 49, 50, 51, 52, 53, 54, 55, 56, 57, 58, 59, 60, 61, 62, 63, 64, 65, 66, 67] (by decide +kernel) (by decide +kernel)
set_option maxRecDepth 20000 in
theorem gX8_better_X8_isRight : GoodIn wsX8_better (wsV RX8 254 RX8 yX8_isRight wsX8_isRight) := goodIn_app (goodIn_of _ (by decide +kernel)) ggX8_better_X8_isRight
set_option maxRecDepth 20000 in
theorem ggX8_better_X3_dealtAtLeast : GoodIn wsX8_better wsX3_dealtAtLeast := goodIn_r _ [30, 31, 32, 29, 33, 34, 35, 36, 37, 38, 39, 68, 69, 70, 71] (by decide +kernel) (by decide +kernel)
set_option maxRecDepth 20000 in
theorem gX8_better_X3_dealtAtLeast : GoodIn wsX8_better (wsV RX8 257 RX3 yX3_dealtAtLeast wsX3_dealtAtLeast) := goodIn_app (goodIn_of _ (by decide +kernel)) ggX8_better_X3_dealtAtLeast
set_option maxRecDepth 20000 in
theorem ggX8_better_X3_part : GoodIn wsX8_better wsX3_part := goodIn_r _ [43, 38, 39, 68, 69, 70, 71] (by decide +kernel) (by decide +kernel)
set_option maxRecDepth 20000 in
theorem gX8_better_X3_part : GoodIn wsX8_better (wsV RX8 234 RX3 yX3_part wsX3_part) := goodIn_app (goodIn_of _ (by decide +kernel)) ggX8_better_X3_part
set_option maxRecDepth 20000 in
theorem ggX8_lean_X0_has : GoodIn wsX8_lean wsX0_has := goodIn_r _ [8, 9, 141, 142, 143, 144] (by decide +kernel) (by decide +kernel)
set_option maxRecDepth 20000 in
theorem gX8_lean_X0_has : GoodIn wsX8_lean (wsV RX8 176 RX0 yX0_has wsX0_has) := goodIn_app (goodIn_of _ (by decide +kernel)) ggX8_lean_X0_has
set_option maxRecDepth 20000 in
theorem ggX8_lean_X2_run : GoodIn wsX8_lean wsX2_run := goodIn_r _ [14, 15, 16, 17, 18, 19, 20, 21, 22, 23, 13, 24, 25, 26, 27, 28, 29, 30, 31, 32, 33, 34, 35, 36, 37, 38, 39, 40, 41, 7, 42, 9, 43, 44, 45, 46, 47, 48, 49, 50, 51, 52, 53, 54, 55, 56, 57, 58, 59, 60, 61, 62, 63, 64, 65, 66, 67, 68, 69, 70, 71, 72, 73, 74, 75, 76, 77, 78, 79, 80, 81, 82, 83, 84, 85, 86, 87, 88, 89, 90, 91, 92, 93, 94, 95, 96, 97, 98, 99, 100, 101, 102, 103, 104, 105, 106, 107, 108, 109, 110, 111, 112, 113, 114, 145, 146, 147, 148, 149, 150, 151, 152, 153, 154, 155, 156, 157, 158, 159, 160, 161, 141, 142, 143, 144] (by decide +kernel) (by decide +kernel)
set_option maxRecDepth 20000 in
theorem gX8_lean_X2_run : GoodIn wsX8_lean (wsV RX8 191 RX2 yX2_run wsX2_run) := goodIn_app (goodIn_of _ (by decide +kernel)) ggX8_lean_X2_run
set_option maxRecDepth 20000 in
theorem ggX8_lean_X2_keepEnds : GoodIn wsX8_lean wsX2_keepEnds := goodIn_r _ [118, 17, 18, 119, 120, 121, 122, 13, 123, 36, 37, 145, 146, 147, 148, 149, 150, 151, 152, 153, 155, 156, 157, 158, 159, 160, 161] (by decide +kernel) (by decide +kernel)
set_option maxRecDepth 20000 in
theorem gX8_lean_X2_keepEnds : GoodIn wsX8_lean (wsV RX8 261 RX2 yX2_keepEnds wsX2_keepEnds) := goodIn_app (goodIn_of _ (by decide +kernel)) ggX8_lean_X2_keepEnds
set_option maxRecDepth 20000 in
theorem ggX8_lean_X2_endsUnlikeKept : GoodIn wsX8_lean wsX2_endsUnlikeKept := goodIn_r _ [127, 17, 18, 119, 120, 121, 122, 13, 123, 36, 37, 145, 146, 147, 148, 149, 150, 151, 152, 153, 155, 156, 157, 158, 159, 160, 161] (by decide +kernel) (by decide +kernel)
set_option maxRecDepth 20000 in
theorem gX8_lean_X2_endsUnlikeKept : GoodIn wsX8_lean (wsV RX8 264 RX2 yX2_endsUnlikeKept wsX2_endsUnlikeKept) := goodIn_app (goodIn_of _ (by decide +kernel)) ggX8_lean_X2_endsUnlikeKept
set_option maxRecDepth 20000 in
theorem ggX8_coins_X0_has : GoodIn wsX8_coins wsX0_has := goodIn_r _ [8, 9, 55, 56, 57, 58] (by decide +kernel) (by decide +kernel)
set_option maxRecDepth 20000 in
theorem gX8_coins_X0_has : GoodIn wsX8_coins (wsV RX8 176 RX0 yX0_has wsX0_has) := goodIn_app (goodIn_of _ (by decide +kernel)) ggX8_coins_X0_has
set_option maxRecDepth 20000 in
theorem ggX8_coins_X8_rightOf : GoodIn wsX8_coins wsX8_rightOf := goodIn_r _ [14, 15, 16, 17, 18, 19, 13, 20, 1, 21, 22, 23, 24, 25, 26, 27, 28, 29, 7, 30, 31, 32, 41, 42, 43, 44, 45, 46, 47, 48, 49, 50, 51, 52, 53, 59, 60, 61, 62, 63, 64, 65, 55, 56, 57, 58] (by decide +kernel) (by decide +kernel)
set_option maxRecDepth 20000 in
theorem gX8_coins_X8_rightOf : GoodIn wsX8_coins (wsV RX8 212 RX8 yX8_rightOf wsX8_rightOf) := goodIn_app (goodIn_of _ (by decide +kernel)) ggX8_coins_X8_rightOf
set_option maxRecDepth 20000 in
theorem ggX8_coins_X8_answersOf : GoodIn wsX8_coins wsX8_answersOf := goodIn_r _ [36, 15, 16, 1, 27, 28, 29, 7, 30, 31, 32, 41, 42, 43, 44, 45, 46, 47, 48, 49, 50, 51, 52, 53, 59, 60, 61, 62, 63, 64, 65, 55, 56, 57, 58] (by decide +kernel) (by decide +kernel)
set_option maxRecDepth 20000 in
theorem gX8_coins_X8_answersOf : GoodIn wsX8_coins (wsV RX8 206 RX8 yX8_answersOf wsX8_answersOf) := goodIn_app (goodIn_of _ (by decide +kernel)) ggX8_coins_X8_answersOf
set_option maxRecDepth 20000 in
theorem ggX8_coins_X8_answersToKnown : GoodIn wsX8_coins wsX8_answersToKnown := goodIn_r _ [40, 15, 16, 23, 24, 25, 13, 26, 1, 22, 27, 28, 29, 7, 30, 31, 32, 41, 42, 43, 44, 45, 46, 47, 48, 49, 50, 51, 52, 53, 59, 60, 61, 62, 63, 64, 65, 55, 56, 57, 58] (by decide +kernel) (by decide +kernel)
set_option maxRecDepth 20000 in
theorem gX8_coins_X8_answersToKnown : GoodIn wsX8_coins (wsV RX8 209 RX8 yX8_answersToKnown wsX8_answersToKnown) := goodIn_app (goodIn_of _ (by decide +kernel)) ggX8_coins_X8_answersToKnown
set_option maxRecDepth 20000 in
theorem ggX8_pays_X4_allows : GoodIn wsX8_pays wsX4_allows := goodIn_r _ [7] (by decide +kernel) (by decide +kernel)
set_option maxRecDepth 20000 in
theorem gX8_pays_X4_allows : GoodIn wsX8_pays (va_wsS RX8 267 yX4_allows wsX4_allows) := goodIn_app (goodIn_of _ (by decide +kernel)) ggX8_pays_X4_allows
set_option maxRecDepth 20000 in
theorem ggX8_belief_X4_firstUntrue : GoodIn wsX8_belief wsX4_firstUntrue := goodIn_r _ [6, 7, 8, 9, 5, 10, 11, 12, 13, 14, 15, 16, 32, 33] (by decide +kernel) (by decide +kernel)
set_option maxRecDepth 20000 in
theorem gX8_belief_X4_firstUntrue : GoodIn wsX8_belief (wsV RX8 275 RX4 yX4_firstUntrue wsX4_firstUntrue) := goodIn_app (goodIn_of _ (by decide +kernel)) ggX8_belief_X4_firstUntrue
set_option maxRecDepth 20000 in
theorem ggX8_belief_X4_bestSaying : GoodIn wsX8_belief wsX4_bestSaying := goodIn_r _ [10, 11, 12, 13, 5, 14, 15, 16, 32, 33] (by decide +kernel) (by decide +kernel)
set_option maxRecDepth 20000 in
theorem gX8_belief_X4_bestSaying : GoodIn wsX8_belief (wsV RX8 278 RX4 yX4_bestSaying wsX4_bestSaying) := goodIn_app (goodIn_of _ (by decide +kernel)) ggX8_belief_X4_bestSaying
set_option maxRecDepth 20000 in
theorem ggX8_belief_X4_brings : GoodIn wsX8_belief wsX4_brings := goodIn_r _ [14, 15, 16, 32, 33] (by decide +kernel) (by decide +kernel)
set_option maxRecDepth 20000 in
theorem gX8_belief_X4_brings : GoodIn wsX8_belief (wsV RX8 281 RX4 yX4_brings wsX4_brings) := goodIn_app (goodIn_of _ (by decide +kernel)) ggX8_belief_X4_brings
set_option maxRecDepth 20000 in
theorem ggX8_plan_X3_greaterPart : GoodIn wsX8_plan wsX3_greaterPart := goodIn_r _ [4, 5, 6, 3, 7, 8, 9, 10] (by decide +kernel) (by decide +kernel)
set_option maxRecDepth 20000 in
theorem gX8_plan_X3_greaterPart : GoodIn wsX8_plan (va_wsS RX8 284 yX3_greaterPart wsX3_greaterPart) := goodIn_app (goodIn_of _ (by decide +kernel)) ggX8_plan_X3_greaterPart
set_option maxRecDepth 20000 in
theorem ggX8_plan_X3_power : GoodIn wsX8_plan wsX3_power := goodIn_r _ [10] (by decide +kernel) (by decide +kernel)
set_option maxRecDepth 20000 in
theorem gX8_plan_X3_power : GoodIn wsX8_plan (va_wsS RX8 288 yX3_power wsX3_power) := goodIn_app (goodIn_of _ (by decide +kernel)) ggX8_plan_X3_power
set_option maxRecDepth 20000 in
theorem ggX8_told_X8_allAnswers : GoodIn wsX8_told wsX8_allAnswers := goodIn_r _ [13, 7, 8, 14, 15, 16, 12, 17, 5, 6, 18, 19, 20, 21, 22, 23, 24, 59, 60, 61, 62, 63, 64, 65, 66, 67, 68, 69, 70, 71, 91, 92, 93, 94, 84, 85, 86, 87, 88, 89, 90] (by decide +kernel) (by decide +kernel)
set_option maxRecDepth 20000 in
theorem gX8_told_X8_allAnswers : GoodIn wsX8_told (wsV RX8 291 RX8 yX8_allAnswers wsX8_allAnswers) := goodIn_app (goodIn_of _ (by decide +kernel)) ggX8_told_X8_allAnswers
set_option maxRecDepth 20000 in
theorem ggX8_told_X8_openItems : GoodIn wsX8_told wsX8_openItems := goodIn_r _ [28, 5, 6, 29, 30, 31, 12, 32, 33, 3, 4, 34, 35, 36, 37, 38, 39, 40, 41, 42, 43, 44, 45, 46, 47, 48, 49, 50, 51, 52, 53, 54, 55, 56, 57, 58, 59, 60, 61, 62, 63, 64, 65, 66, 67, 68, 69, 70, 71, 84, 85, 86, 87, 88, 89, 90, 79, 80, 81, 82, 83, 95, 96, 97, 98, 99, 100, 101, 102, 103] (by decide +kernel) (by decide +kernel)
set_option maxRecDepth 20000 in
theorem gX8_told_X8_openItems : GoodIn wsX8_told (wsV RX8 294 RX8 yX8_openItems wsX8_openItems) := goodIn_app (goodIn_of _ (by decide +kernel)) ggX8_told_X8_openItems
set_option maxRecDepth 20000 in
theorem ggX8_sureOf_X2_greatest : GoodIn wsX8_sureOf wsX2_greatest := goodIn_r _ [7, 8, 9, 10, 24, 25, 26, 27, 28, 29, 30, 31, 32, 33, 34, 35, 36, 37, 38, 39] (by decide +kernel) (by decide +kernel)
set_option maxRecDepth 20000 in
theorem gX8_sureOf_X2_greatest : GoodIn wsX8_sureOf (wsV RX8 168 RX2 yX2_greatest wsX2_greatest) := goodIn_app (goodIn_of _ (by decide +kernel)) ggX8_sureOf_X2_greatest
set_option maxRecDepth 20000 in
theorem ggX8_isOpen_X1_find : GoodIn wsX8_isOpen wsX1_find := goodIn_r _ [12, 13, 14, 15, 44, 45, 46, 47, 48, 49, 50] (by decide +kernel) (by decide +kernel)
set_option maxRecDepth 20000 in
theorem gX8_isOpen_X1_find : GoodIn wsX8_isOpen (wsV RX8 120 RX1 yX1_find wsX1_find) := goodIn_app (goodIn_of _ (by decide +kernel)) ggX8_isOpen_X1_find
set_option maxRecDepth 20000 in
theorem ggX8_isOpen_X8_sureOf : GoodIn wsX8_isOpen wsX8_sureOf := goodIn_r _ [20, 21, 22, 23, 24, 25, 26, 27, 28, 29, 30, 31, 32, 33, 34, 35, 36, 37, 38, 39, 40, 41, 42, 43, 56, 57, 58, 59, 60, 61, 62, 63, 64, 44, 45, 46, 47, 48, 49, 50] (by decide +kernel) (by decide +kernel)
set_option maxRecDepth 20000 in
theorem gX8_isOpen_X8_sureOf : GoodIn wsX8_isOpen (wsV RX8 171 RX8 yX8_sureOf wsX8_sureOf) := goodIn_app (goodIn_of _ (by decide +kernel)) ggX8_isOpen_X8_sureOf
set_option maxRecDepth 20000 in
theorem ggX8_openItems_X8_isOpen : GoodIn wsX8_openItems wsX8_isOpen := goodIn_r _ [7, 1, 8, 9, 10, 11, 12, 13, 14, 15, 16, 17, 18, 19, 20, 21, 22, 23, 24, 6, 25, 26, 27, 28, 29, 30, 31, 32, 33, 34, 35, 36, 37, 38, 39, 40, 41, 42, 43, 44, 45, 46, 47, 48, 49, 50, 51, 52, 53, 54, 55, 56, 57, 58, 59, 60, 61, 62, 63, 64, 65, 66, 67, 68, 69] (by decide +kernel) (by decide +kernel)
set_option maxRecDepth 20000 in
theorem gX8_openItems_X8_isOpen : GoodIn wsX8_openItems (wsV RX8 161 RX8 yX8_isOpen wsX8_isOpen) := goodIn_app (goodIn_of _ (by decide +kernel)) ggX8_openItems_X8_isOpen
set_option maxRecDepth 20000 in
theorem ggX8_seekHelp_X1_isFree : GoodIn wsX8_seekHelp wsX1_isFree := goodIn_r _ [10, 11, 12, 80, 81, 82, 83, 84, 85, 86] (by decide +kernel) (by decide +kernel)
set_option maxRecDepth 20000 in
theorem gX8_seekHelp_X1_isFree : GoodIn wsX8_seekHelp (wsV RX8 138 RX1 yX1_isFree wsX1_isFree) := goodIn_app (goodIn_of _ (by decide +kernel)) ggX8_seekHelp_X1_isFree
set_option maxRecDepth 20000 in
theorem ggX8_seekHelp_X8_isOpen : GoodIn wsX8_seekHelp wsX8_isOpen := goodIn_r _ [17, 4, 18, 19, 20, 21, 22, 23, 24, 25, 26, 9, 27, 28, 29, 30, 31, 32, 33, 16, 34, 35, 36, 37, 38, 39, 40, 41, 42, 43, 44, 67, 68, 69, 70, 71, 72, 73, 74, 75, 76, 77, 78, 79, 80, 81, 82, 83, 84, 85, 86, 87, 88, 89, 90, 91, 92, 93, 94, 95, 96, 97, 98, 99, 100] (by decide +kernel) (by decide +kernel)
set_option maxRecDepth 20000 in
theorem gX8_seekHelp_X8_isOpen : GoodIn wsX8_seekHelp (wsV RX8 161 RX8 yX8_isOpen wsX8_isOpen) := goodIn_app (goodIn_of _ (by decide +kernel)) ggX8_seekHelp_X8_isOpen
set_option maxRecDepth 20000 in
theorem ggX8_seekHelp_X8_seekHandFor : GoodIn wsX8_seekHelp wsX8_seekHandFor := goodIn_r _ [48, 49, 50, 51, 52, 35, 3, 1, 2, 53, 54, 55, 40, 56, 42, 43, 44, 57, 58, 59, 60, 61, 62, 63, 64, 65, 66, 38, 39, 41, 67, 68, 69, 70, 71, 72, 73, 74, 75, 76, 77, 78, 79, 101, 102, 103, 104, 92, 93, 94, 95, 96, 97, 98, 99, 100, 80, 81, 82, 83, 84, 85, 86] (by decide +kernel) (by decide +kernel)
set_option maxRecDepth 20000 in
theorem gX8_seekHelp_X8_seekHandFor : GoodIn wsX8_seekHelp (wsV RX8 297 RX8 yX8_seekHandFor wsX8_seekHandFor) := goodIn_app (goodIn_of _ (by decide +kernel)) ggX8_seekHelp_X8_seekHandFor
set_option maxRecDepth 20000 in
theorem ggX8_seekHandFor_X2_helpOf : GoodIn wsX8_seekHandFor wsX2_helpOf := goodIn_r _ [13, 14, 15, 16, 17, 18, 19, 20, 21, 22, 23, 24, 12, 25, 26, 27, 28, 29, 47, 48, 49, 50, 51, 52, 53, 54, 55, 56, 57, 58, 59, 60, 61, 62] (by decide +kernel) (by decide +kernel)
set_option maxRecDepth 20000 in
theorem gX8_seekHandFor_X2_helpOf : GoodIn wsX8_seekHandFor (wsV RX8 300 RX2 yX2_helpOf wsX2_helpOf) := goodIn_app (goodIn_of _ (by decide +kernel)) ggX8_seekHandFor_X2_helpOf
set_option maxRecDepth 20000 in
theorem ggX8_isToKnown_X0_counts : GoodIn wsX8_isToKnown wsX0_counts := goodIn_r _ [8, 9, 10, 31, 32, 33, 34] (by decide +kernel) (by decide +kernel)
set_option maxRecDepth 20000 in
theorem gX8_isToKnown_X0_counts : GoodIn wsX8_isToKnown (wsV RX8 241 RX0 yX0_counts wsX0_counts) := goodIn_app (goodIn_of _ (by decide +kernel)) ggX8_isToKnown_X0_counts
set_option maxRecDepth 20000 in
theorem ggX8_isRight_X8_isToKnown : GoodIn wsX8_isRight wsX8_isToKnown := goodIn_r _ [9, 1, 3, 4, 10, 11, 12, 13, 14, 15, 16, 17, 18, 19, 20, 21, 22, 23, 24, 25, 26, 27, 28, 29, 34, 35, 36, 37, 38, 39, 40, 30, 31, 32, 33] (by decide +kernel) (by decide +kernel)
set_option maxRecDepth 20000 in
theorem gX8_isRight_X8_isToKnown : GoodIn wsX8_isRight (wsV RX8 225 RX8 yX8_isToKnown wsX8_isToKnown) := goodIn_app (goodIn_of _ (by decide +kernel)) ggX8_isRight_X8_isToKnown
set_option maxRecDepth 20000 in
theorem ggX8_answersOf_X0_counts : GoodIn wsX8_answersOf wsX0_counts := goodIn_r _ [8, 9, 10, 31, 32, 33, 34] (by decide +kernel) (by decide +kernel)
set_option maxRecDepth 20000 in
theorem gX8_answersOf_X0_counts : GoodIn wsX8_answersOf (wsV RX8 241 RX0 yX0_counts wsX0_counts) := goodIn_app (goodIn_of _ (by decide +kernel)) ggX8_answersOf_X0_counts
set_option maxRecDepth 20000 in
theorem ggX8_answersToKnown_X8_isToKnown : GoodIn wsX8_answersToKnown wsX8_isToKnown := goodIn_r _ [7, 8, 1, 9, 10, 11, 12, 13, 14, 15, 16, 17, 18, 19, 20, 21, 22, 23, 24, 25, 26, 27, 28, 29, 30, 31, 32, 33, 34, 35, 36, 37, 38, 39, 40] (by decide +kernel) (by decide +kernel)
set_option maxRecDepth 20000 in
theorem gX8_answersToKnown_X8_isToKnown : GoodIn wsX8_answersToKnown (wsV RX8 225 RX8 yX8_isToKnown wsX8_isToKnown) := goodIn_app (goodIn_of _ (by decide +kernel)) ggX8_answersToKnown_X8_isToKnown
set_option maxRecDepth 20000 in
theorem ggX8_rightOf_X8_isRight : GoodIn wsX8_rightOf wsX8_isRight := goodIn_r _ [7, 8, 9, 1, 10, 11, 12, 13, 6, 14, 15, 16, 17, 18, 19, 20, 21, 22, 23, 24, 25, 26, 27, 28, 29, 30, 31, 32, 33, 34, 42, 43, 44, 45, 35, 36, 37, 38, 39, 40, 41] (by decide +kernel) (by decide +kernel)
set_option maxRecDepth 20000 in
theorem gX8_rightOf_X8_isRight : GoodIn wsX8_rightOf (wsV RX8 254 RX8 yX8_isRight wsX8_isRight) := goodIn_app (goodIn_of _ (by decide +kernel)) ggX8_rightOf_X8_isRight
set_option maxRecDepth 20000 in
theorem ggX8_allAnswers_X8_answersOf : GoodIn wsX8_allAnswers wsX8_answersOf := goodIn_r _ [7, 8, 9, 1, 10, 11, 12, 13, 14, 15, 16, 17, 18, 19, 20, 21, 22, 23, 24, 25, 26, 27, 28, 29, 34, 35, 36, 37, 38, 39, 40, 30, 31, 32, 33] (by decide +kernel) (by decide +kernel)
set_option maxRecDepth 20000 in
theorem gX8_allAnswers_X8_answersOf : GoodIn wsX8_allAnswers (wsV RX8 206 RX8 yX8_answersOf wsX8_answersOf) := goodIn_app (goodIn_of _ (by decide +kernel)) ggX8_allAnswers_X8_answersOf
set_option maxRecDepth 20000 in
theorem ggX8_isMisread_X0_countWith : GoodIn wsX8_isMisread wsX0_countWith := goodIn_r _ [9, 10, 11, 12, 13, 14, 8, 15, 16, 37, 38, 39, 40] (by decide +kernel) (by decide +kernel)
set_option maxRecDepth 20000 in
theorem gX8_isMisread_X0_countWith : GoodIn wsX8_isMisread (wsV RX8 303 RX0 yX0_countWith wsX0_countWith) := goodIn_app (goodIn_of _ (by decide +kernel)) ggX8_isMisread_X0_countWith
