set_option maxRecDepth 20000 in
theorem ggX9_say_X9_in : GoodIn wsX9_say wsX9_in := goodIn_r _ [6] (by decide +kernel) (by decide +kernel)
set_option maxRecDepth 20000 in
theorem gX9_say_X9_in : GoodIn wsX9_say (va_wsS RX9 93 yX9_in wsX9_in) := goodIn_app (goodIn_of _ (by decide +kernel)) ggX9_say_X9_in
set_option maxRecDepth 20000 in
theorem ggX9_faultOf_X9_in : GoodIn wsX9_faultOf wsX9_in := goodIn_r _ [11] (by decide +kernel) (by decide +kernel)
set_option maxRecDepth 20000 in
theorem gX9_faultOf_X9_in : GoodIn wsX9_faultOf (va_wsS RX9 93 yX9_in wsX9_in) := goodIn_app (goodIn_of _ (by decide +kernel)) ggX9_faultOf_X9_in
set_option maxRecDepth 20000 in
theorem ggX9_faultOf_X9_named : GoodIn wsX9_faultOf wsX9_named := goodIn_r _ [15, 4, 16, 17, 18, 19, 20, 21, 22, 23, 24, 25, 26, 27, 28, 29, 30, 31, 32, 33, 34, 35, 36, 37, 38, 39, 40, 41, 42, 43, 44, 45, 46, 47, 48, 49, 50, 51, 52] (by decide +kernel) (by decide +kernel)
set_option maxRecDepth 20000 in
theorem gX9_faultOf_X9_named : GoodIn wsX9_faultOf (wsV RX9 104 RX9 yX9_named wsX9_named) := goodIn_app (goodIn_of _ (by decide +kernel)) ggX9_faultOf_X9_named
set_option maxRecDepth 20000 in
theorem ggX9_fault_X9_faultOf : GoodIn wsX9_fault wsX9_faultOf := goodIn_r _ [5, 6, 7, 8, 9, 10, 11, 12, 13, 14, 4, 15, 16, 17, 18, 19, 20, 21, 22, 23, 24, 25, 26, 27, 28, 29, 30, 31, 32, 33, 34, 35, 36, 37, 38, 39, 40, 41, 42, 43, 44, 45, 46, 47, 48, 49, 50, 51, 52, 53, 54, 55, 56] (by decide +kernel) (by decide +kernel)
set_option maxRecDepth 20000 in
theorem gX9_fault_X9_faultOf : GoodIn wsX9_fault (wsV RX9 108 RX9 yX9_faultOf wsX9_faultOf) := goodIn_app (goodIn_of _ (by decide +kernel)) ggX9_fault_X9_faultOf
set_option maxRecDepth 20000 in
theorem ggX9_task_X9_faultOf : GoodIn wsX9_task wsX9_faultOf := goodIn_r _ [21, 1, 13, 22, 4, 8, 6, 10, 23, 24, 20, 25, 26, 27, 28, 29, 30, 31, 32, 33, 34, 35, 36, 37, 38, 39, 40, 41, 42, 43, 44, 45, 46, 47, 48, 49, 50, 51, 52, 53, 54, 55, 56, 57, 58, 59, 60, 61, 62, 63, 64, 65, 66] (by decide +kernel) (by decide +kernel)
set_option maxRecDepth 20000 in
theorem gX9_task_X9_faultOf : GoodIn wsX9_task (wsV RX9 108 RX9 yX9_faultOf wsX9_faultOf) := goodIn_app (goodIn_of _ (by decide +kernel)) ggX9_task_X9_faultOf
set_option maxRecDepth 20000 in
theorem ggX9_step_X9_in : GoodIn wsX9_step wsX9_in := goodIn_r _ [9] (by decide +kernel) (by decide +kernel)
set_option maxRecDepth 20000 in
theorem gX9_step_X9_in : GoodIn wsX9_step (va_wsS RX9 93 yX9_in wsX9_in) := goodIn_app (goodIn_of _ (by decide +kernel)) ggX9_step_X9_in
set_option maxRecDepth 20000 in
theorem ggX9_item_X9_in : GoodIn wsX9_item wsX9_in := goodIn_r _ [12] (by decide +kernel) (by decide +kernel)
set_option maxRecDepth 20000 in
theorem gX9_item_X9_in : GoodIn wsX9_item (va_wsS RX9 93 yX9_in wsX9_in) := goodIn_app (goodIn_of _ (by decide +kernel)) ggX9_item_X9_in
set_option maxRecDepth 20000 in
theorem ggX9_item_X9_itemOf : GoodIn wsX9_item wsX9_itemOf := goodIn_r _ [16, 2, 3, 4, 17, 18, 19, 20, 21, 22, 23, 24, 25, 26, 27, 28, 29, 30, 31, 32, 33, 34, 35, 36, 37, 38, 39, 40, 41, 42, 43, 44, 45, 46, 47, 48, 49, 50, 51, 52, 53] (by decide +kernel) (by decide +kernel)
set_option maxRecDepth 20000 in
theorem gX9_item_X9_itemOf : GoodIn wsX9_item (wsV RX9 131 RX9 yX9_itemOf wsX9_itemOf) := goodIn_app (goodIn_of _ (by decide +kernel)) ggX9_item_X9_itemOf
set_option maxRecDepth 20000 in
theorem ggX9_isItem_X9_in : GoodIn wsX9_isItem wsX9_in := goodIn_r _ [5] (by decide +kernel) (by decide +kernel)
set_option maxRecDepth 20000 in
theorem gX9_isItem_X9_in : GoodIn wsX9_isItem (va_wsS RX9 93 yX9_in wsX9_in) := goodIn_app (goodIn_of _ (by decide +kernel)) ggX9_isItem_X9_in
set_option maxRecDepth 20000 in
theorem ggX9_isHand_X9_in : GoodIn wsX9_isHand wsX9_in := goodIn_r _ [5] (by decide +kernel) (by decide +kernel)
set_option maxRecDepth 20000 in
theorem gX9_isHand_X9_in : GoodIn wsX9_isHand (va_wsS RX9 93 yX9_in wsX9_in) := goodIn_app (goodIn_of _ (by decide +kernel)) ggX9_isHand_X9_in
set_option maxRecDepth 20000 in
theorem ggX9_isLabel_X9_isItem : GoodIn wsX9_isLabel wsX9_isItem := goodIn_r _ [5, 6, 7, 8, 4, 9, 16, 17, 18, 19, 20, 21, 22, 23, 24, 25, 26, 27, 28, 29, 30, 31, 32, 33, 34, 35, 36, 37, 38, 39, 40, 41, 42, 43, 44, 45, 46, 47, 48, 49, 50, 51, 52] (by decide +kernel) (by decide +kernel)
set_option maxRecDepth 20000 in
theorem gX9_isLabel_X9_isItem : GoodIn wsX9_isLabel (wsV RX9 134 RX9 yX9_isItem wsX9_isItem) := goodIn_app (goodIn_of _ (by decide +kernel)) ggX9_isLabel_X9_isItem
set_option maxRecDepth 20000 in
theorem ggX9_isLabel_X9_labelsOf : GoodIn wsX9_isLabel wsX9_labelsOf := goodIn_r _ [13, 14, 15, 16, 17, 18, 19, 20, 21, 22, 23, 24, 25, 26, 27, 28, 29, 30, 31, 32, 33, 34, 35, 36, 37, 38, 39, 40, 41, 42, 43, 44, 45, 46, 47, 48, 49, 50, 51, 52] (by decide +kernel) (by decide +kernel)
set_option maxRecDepth 20000 in
theorem gX9_isLabel_X9_labelsOf : GoodIn wsX9_isLabel (wsV RX9 138 RX9 yX9_labelsOf wsX9_labelsOf) := goodIn_app (goodIn_of _ (by decide +kernel)) ggX9_isLabel_X9_labelsOf
set_option maxRecDepth 20000 in
theorem ggX9_isLabel_X9_in : GoodIn wsX9_isLabel wsX9_in := goodIn_r _ [9] (by decide +kernel) (by decide +kernel)
set_option maxRecDepth 20000 in
theorem gX9_isLabel_X9_in : GoodIn wsX9_isLabel (va_wsS RX9 93 yX9_in wsX9_in) := goodIn_app (goodIn_of _ (by decide +kernel)) ggX9_isLabel_X9_in
set_option maxRecDepth 20000 in
theorem ggX9_known_X9_isLabel : GoodIn wsX9_known wsX9_isLabel := goodIn_r _ [8, 9, 10, 11, 7, 12, 13, 14, 15, 16, 17, 18, 19, 20, 21, 22, 28, 29, 30, 31, 32, 33, 34, 35, 36, 37, 38, 39, 40, 41, 42, 43, 44, 45, 46, 47, 48, 49, 50, 51, 52, 53, 54, 55, 56, 57, 58, 59, 60, 61, 62, 63, 64] (by decide +kernel) (by decide +kernel)
set_option maxRecDepth 20000 in
theorem gX9_known_X9_isLabel : GoodIn wsX9_known (wsV RX9 142 RX9 yX9_isLabel wsX9_isLabel) := goodIn_app (goodIn_of _ (by decide +kernel)) ggX9_known_X9_isLabel
set_option maxRecDepth 20000 in
theorem ggX9_known_X9_fixed : GoodIn wsX9_known wsX9_fixed := goodIn_r _ [26, 3, 27, 28, 29, 30, 31, 32, 33, 34, 35, 36, 37, 38, 39, 40, 41, 42, 43, 44, 45, 46, 47, 48, 49, 50, 51, 52, 53, 54, 55, 56, 57, 58, 59, 60, 61, 62, 63, 64] (by decide +kernel) (by decide +kernel)
set_option maxRecDepth 20000 in
theorem gX9_known_X9_fixed : GoodIn wsX9_known (wsV RX9 146 RX9 yX9_fixed wsX9_fixed) := goodIn_app (goodIn_of _ (by decide +kernel)) ggX9_known_X9_fixed
set_option maxRecDepth 20000 in
theorem ggX9_settle_X9_isLabel : GoodIn wsX9_settle wsX9_isLabel := goodIn_r _ [7, 8, 9, 10, 6, 11, 12, 13, 14, 15, 16, 17, 18, 19, 20, 21, 22, 23, 24, 25, 26, 27, 28, 29, 30, 31, 32, 33, 34, 35, 36, 37, 38, 39, 40, 41, 42, 43, 44, 45, 46, 47, 48, 49, 50, 51, 52, 53, 54, 55, 56, 57, 58] (by decide +kernel) (by decide +kernel)
set_option maxRecDepth 20000 in
theorem gX9_settle_X9_isLabel : GoodIn wsX9_settle (wsV RX9 142 RX9 yX9_isLabel wsX9_isLabel) := goodIn_app (goodIn_of _ (by decide +kernel)) ggX9_settle_X9_isLabel
set_option maxRecDepth 20000 in
theorem ggX9_show_X9_isItem : GoodIn wsX9_show wsX9_isItem := goodIn_r _ [6, 7, 8, 9, 5, 10, 11, 12, 13, 14, 15, 16, 17, 18, 19, 20, 21, 22, 23, 24, 25, 26, 27, 28, 29, 30, 31, 32, 33, 34, 35, 36, 37, 38, 39, 40, 41, 42, 43, 44, 45, 46, 47] (by decide +kernel) (by decide +kernel)
set_option maxRecDepth 20000 in
theorem gX9_show_X9_isItem : GoodIn wsX9_show (wsV RX9 134 RX9 yX9_isItem wsX9_isItem) := goodIn_app (goodIn_of _ (by decide +kernel)) ggX9_show_X9_isItem
set_option maxRecDepth 20000 in
theorem ggX9_show_X9_in : GoodIn wsX9_show wsX9_in := goodIn_r _ [10] (by decide +kernel) (by decide +kernel)
set_option maxRecDepth 20000 in
theorem gX9_show_X9_in : GoodIn wsX9_show (va_wsS RX9 93 yX9_in wsX9_in) := goodIn_app (goodIn_of _ (by decide +kernel)) ggX9_show_X9_in
set_option maxRecDepth 20000 in
theorem ggX9_shareOf_X9_fixed : GoodIn wsX9_shareOf wsX9_fixed := goodIn_r _ [9, 10, 11, 18, 19, 20, 21, 22, 23, 24, 25, 26, 27, 28, 29, 30, 31, 32, 33, 34, 35, 36, 37, 38, 39, 40, 41, 42, 43, 44, 45, 46, 47, 48, 49, 50, 51, 52, 53, 54] (by decide +kernel) (by decide +kernel)
set_option maxRecDepth 20000 in
theorem gX9_shareOf_X9_fixed : GoodIn wsX9_shareOf (wsV RX9 146 RX9 yX9_fixed wsX9_fixed) := goodIn_app (goodIn_of _ (by decide +kernel)) ggX9_shareOf_X9_fixed
set_option maxRecDepth 20000 in
theorem ggX9_shareOf_X9_labelsOf : GoodIn wsX9_shareOf wsX9_labelsOf := goodIn_r _ [15, 16, 17, 18, 19, 20, 21, 22, 23, 24, 25, 26, 27, 28, 29, 30, 31, 32, 33, 34, 35, 36, 37, 38, 39, 40, 41, 42, 43, 44, 45, 46, 47, 48, 49, 50, 51, 52, 53, 54] (by decide +kernel) (by decide +kernel)
set_option maxRecDepth 20000 in
theorem gX9_shareOf_X9_labelsOf : GoodIn wsX9_shareOf (wsV RX9 138 RX9 yX9_labelsOf wsX9_labelsOf) := goodIn_app (goodIn_of _ (by decide +kernel)) ggX9_shareOf_X9_labelsOf
set_option maxRecDepth 20000 in
theorem ggX9_endOf_X9_labelsOf : GoodIn wsX9_endOf wsX9_labelsOf := goodIn_r _ [5, 6, 7, 22, 23, 24, 25, 26, 27, 28, 29, 30, 31, 32, 33, 34, 35, 36, 37, 38, 39, 40, 41, 42, 43, 44, 45, 46, 47, 48, 49, 50, 51, 52, 53, 54, 55, 56, 57, 58] (by decide +kernel) (by decide +kernel)
set_option maxRecDepth 20000 in
theorem gX9_endOf_X9_labelsOf : GoodIn wsX9_endOf (wsV RX9 138 RX9 yX9_labelsOf wsX9_labelsOf) := goodIn_app (goodIn_of _ (by decide +kernel)) ggX9_endOf_X9_labelsOf
set_option maxRecDepth 20000 in
theorem ggX9_endOf_X9_shareOf : GoodIn wsX9_endOf wsX9_shareOf := goodIn_r _ [11, 12, 13, 14, 15, 16, 17, 18, 4, 19, 20, 21, 1, 2, 3, 5, 6, 7, 22, 23, 24, 25, 26, 27, 28, 29, 30, 31, 32, 33, 34, 35, 36, 37, 38, 39, 40, 41, 42, 43, 44, 45, 46, 47, 48, 49, 50, 51, 52, 53, 54, 55, 56, 57, 58] (by decide +kernel) (by decide +kernel)
set_option maxRecDepth 20000 in
theorem gX9_endOf_X9_shareOf : GoodIn wsX9_endOf (wsV RX9 150 RX9 yX9_shareOf wsX9_shareOf) := goodIn_app (goodIn_of _ (by decide +kernel)) ggX9_endOf_X9_shareOf
set_option maxRecDepth 20000 in
theorem ggX9_sureOf_X9_endOf : GoodIn wsX9_sureOf wsX9_endOf := goodIn_r _ [5, 6, 7, 8, 4, 9, 10, 11, 12, 13, 14, 15, 16, 17, 18, 19, 20, 21, 22, 23, 24, 25, 26, 27, 28, 29, 30, 31, 32, 33, 34, 35, 36, 37, 38, 39, 40, 41, 42, 43, 44, 45, 46, 47, 48, 49, 50, 51, 52, 53, 54, 55, 56, 57, 58, 59, 60, 61, 62] (by decide +kernel) (by decide +kernel)
set_option maxRecDepth 20000 in
theorem gX9_sureOf_X9_endOf : GoodIn wsX9_sureOf (wsV RX9 153 RX9 yX9_endOf wsX9_endOf) := goodIn_app (goodIn_of _ (by decide +kernel)) ggX9_sureOf_X9_endOf
set_option maxRecDepth 20000 in
theorem ggX9_sureOf_X9_shareOf : GoodIn wsX9_sureOf wsX9_shareOf := goodIn_r _ [15, 16, 17, 18, 19, 20, 21, 22, 4, 23, 24, 25, 6, 7, 8, 9, 10, 11, 26, 27, 28, 29, 30, 31, 32, 33, 34, 35, 36, 37, 38, 39, 40, 41, 42, 43, 44, 45, 46, 47, 48, 49, 50, 51, 52, 53, 54, 55, 56, 57, 58, 59, 60, 61, 62] (by decide +kernel) (by decide +kernel)
set_option maxRecDepth 20000 in
theorem gX9_sureOf_X9_shareOf : GoodIn wsX9_sureOf (wsV RX9 150 RX9 yX9_shareOf wsX9_shareOf) := goodIn_app (goodIn_of _ (by decide +kernel)) ggX9_sureOf_X9_shareOf
set_option maxRecDepth 20000 in
theorem ggX9_isOpen_X9_itemOf : GoodIn wsX9_isOpen wsX9_itemOf := goodIn_r _ [10, 11, 3, 4, 39, 40, 41, 42, 43, 44, 45, 46, 47, 48, 49, 50, 51, 52, 53, 54, 55, 56, 57, 58, 59, 60, 61, 62, 63, 64, 65, 66, 67, 68, 69, 70, 71, 72, 73, 74, 75] (by decide +kernel) (by decide +kernel)
set_option maxRecDepth 20000 in
theorem gX9_isOpen_X9_itemOf : GoodIn wsX9_isOpen (wsV RX9 131 RX9 yX9_itemOf wsX9_itemOf) := goodIn_app (goodIn_of _ (by decide +kernel)) ggX9_isOpen_X9_itemOf
set_option maxRecDepth 20000 in
theorem ggX9_isOpen_X9_sureOf : GoodIn wsX9_isOpen wsX9_sureOf := goodIn_r _ [15, 16, 17, 18, 9, 19, 20, 21, 22, 23, 24, 3, 25, 26, 27, 28, 29, 30, 31, 32, 33, 34, 35, 36, 37, 38, 39, 40, 41, 42, 43, 44, 45, 46, 47, 48, 49, 50, 51, 52, 53, 54, 55, 56, 57, 58, 59, 60, 61, 62, 63, 64, 65, 66, 67, 68, 69, 70, 71, 72, 73, 74, 75] (by decide +kernel) (by decide +kernel)
set_option maxRecDepth 20000 in
theorem gX9_isOpen_X9_sureOf : GoodIn wsX9_isOpen (wsV RX9 156 RX9 yX9_sureOf wsX9_sureOf) := goodIn_app (goodIn_of _ (by decide +kernel)) ggX9_isOpen_X9_sureOf
set_option maxRecDepth 20000 in
theorem ggX9_countOf_X9_counts : GoodIn wsX9_countOf wsX9_counts := goodIn_r _ [6, 7, 8, 9, 10, 11, 12, 13, 14, 15, 16, 17, 18, 19, 20, 21, 22, 23, 24, 25, 26, 27, 28, 29, 30, 31, 32, 33, 34, 35, 36, 37, 38, 39, 40, 41, 42, 43, 44, 45] (by decide +kernel) (by decide +kernel)
set_option maxRecDepth 20000 in
theorem gX9_countOf_X9_counts : GoodIn wsX9_countOf (wsV RX9 159 RX9 yX9_counts wsX9_counts) := goodIn_app (goodIn_of _ (by decide +kernel)) ggX9_countOf_X9_counts
set_option maxRecDepth 20000 in
theorem ggX9_ofItem_X9_isItem : GoodIn wsX9_ofItem wsX9_isItem := goodIn_r _ [10, 11, 12, 13, 9, 14, 62, 63, 64, 65, 66, 67, 68, 69, 70, 71, 72, 73, 74, 75, 76, 77, 78, 79, 80, 81, 82, 83, 84, 85, 86, 87, 88, 89, 90, 91, 92, 93, 94, 95, 96, 97, 98] (by decide +kernel) (by decide +kernel)
set_option maxRecDepth 20000 in
theorem gX9_ofItem_X9_isItem : GoodIn wsX9_ofItem (wsV RX9 134 RX9 yX9_isItem wsX9_isItem) := goodIn_app (goodIn_of _ (by decide +kernel)) ggX9_ofItem_X9_isItem
set_option maxRecDepth 20000 in
theorem ggX9_ofItem_X9_labelsOf : GoodIn wsX9_ofItem wsX9_labelsOf := goodIn_r _ [18, 19, 1, 62, 63, 64, 65, 66, 67, 68, 69, 70, 71, 72, 73, 74, 75, 76, 77, 78, 79, 80, 81, 82, 83, 84, 85, 86, 87, 88, 89, 90, 91, 92, 93, 94, 95, 96, 97, 98] (by decide +kernel) (by decide +kernel)
set_option maxRecDepth 20000 in
theorem gX9_ofItem_X9_labelsOf : GoodIn wsX9_ofItem (wsV RX9 138 RX9 yX9_labelsOf wsX9_labelsOf) := goodIn_app (goodIn_of _ (by decide +kernel)) ggX9_ofItem_X9_labelsOf
set_option maxRecDepth 20000 in
theorem ggX9_ofItem_X9_isOpen : GoodIn wsX9_ofItem wsX9_isOpen := goodIn_r _ [23, 24, 25, 1, 2, 26, 27, 28, 29, 9, 30, 11, 31, 32, 33, 34, 35, 36, 37, 38, 15, 16, 17, 18, 19, 39, 40, 41, 42, 43, 44, 45, 46, 47, 48, 49, 50, 3, 4, 62, 63, 64, 65, 66, 67, 68, 69, 70, 71, 72, 73, 74, 75, 76, 77, 78, 79, 80, 81, 82, 83, 84, 85, 86, 87, 88, 89, 90, 91, 92, 93, 94, 95, 96, 97, 98] (by decide +kernel) (by decide +kernel)
set_option maxRecDepth 20000 in
theorem gX9_ofItem_X9_isOpen : GoodIn wsX9_ofItem (wsV RX9 162 RX9 yX9_isOpen wsX9_isOpen) := goodIn_app (goodIn_of _ (by decide +kernel)) ggX9_ofItem_X9_isOpen
set_option maxRecDepth 20000 in
theorem ggX9_ofItem_X9_countOf : GoodIn wsX9_ofItem wsX9_countOf := goodIn_r _ [54, 55, 56, 57, 58, 9, 59, 60, 61, 62, 63, 64, 65, 66, 67, 68, 69, 70, 71, 72, 73, 74, 75, 76, 77, 78, 79, 80, 81, 82, 83, 84, 85, 86, 87, 88, 89, 90, 91, 92, 93, 94, 95, 96, 97, 98] (by decide +kernel) (by decide +kernel)
set_option maxRecDepth 20000 in
theorem gX9_ofItem_X9_countOf : GoodIn wsX9_ofItem (wsV RX9 165 RX9 yX9_countOf wsX9_countOf) := goodIn_app (goodIn_of _ (by decide +kernel)) ggX9_ofItem_X9_countOf
set_option maxRecDepth 20000 in
theorem ggX9_ofItem_X9_endOf : GoodIn wsX9_ofItem wsX9_endOf := goodIn_r _ [38, 15, 16, 17, 9, 18, 19, 1, 39, 40, 41, 42, 43, 44, 45, 46, 47, 48, 49, 50, 3, 4, 62, 63, 64, 65, 66, 67, 68, 69, 70, 71, 72, 73, 74, 75, 76, 77, 78, 79, 80, 81, 82, 83, 84, 85, 86, 87, 88, 89, 90, 91, 92, 93, 94, 95, 96, 97, 98] (by decide +kernel) (by decide +kernel)
set_option maxRecDepth 20000 in
theorem gX9_ofItem_X9_endOf : GoodIn wsX9_ofItem (wsV RX9 153 RX9 yX9_endOf wsX9_endOf) := goodIn_app (goodIn_of _ (by decide +kernel)) ggX9_ofItem_X9_endOf
set_option maxRecDepth 20000 in
theorem ggX9_ofItem_X9_sureOf : GoodIn wsX9_ofItem wsX9_sureOf := goodIn_r _ [34, 35, 36, 37, 9, 38, 15, 16, 17, 18, 19, 1, 39, 40, 41, 42, 43, 44, 45, 46, 47, 48, 49, 50, 3, 4, 62, 63, 64, 65, 66, 67, 68, 69, 70, 71, 72, 73, 74, 75, 76, 77, 78, 79, 80, 81, 82, 83, 84, 85, 86, 87, 88, 89, 90, 91, 92, 93, 94, 95, 96, 97, 98] (by decide +kernel) (by decide +kernel)
set_option maxRecDepth 20000 in
theorem gX9_ofItem_X9_sureOf : GoodIn wsX9_ofItem (wsV RX9 156 RX9 yX9_sureOf wsX9_sureOf) := goodIn_app (goodIn_of _ (by decide +kernel)) ggX9_ofItem_X9_sureOf
set_option maxRecDepth 20000 in
theorem ggX9_out_X9_isHand : GoodIn wsX9_out wsX9_isHand := goodIn_r _ [6, 7, 8, 9, 5, 10, 11, 12, 13, 14, 15, 16, 17, 18, 19, 20, 21, 22, 23, 24, 25, 26, 27, 28, 29, 30, 31, 32, 33, 34, 35, 36, 37, 38, 39, 40, 41, 42, 43, 44, 45, 46, 47] (by decide +kernel) (by decide +kernel)
set_option maxRecDepth 20000 in
theorem gX9_out_X9_isHand : GoodIn wsX9_out (wsV RX9 168 RX9 yX9_isHand wsX9_isHand) := goodIn_app (goodIn_of _ (by decide +kernel)) ggX9_out_X9_isHand
set_option maxRecDepth 20000 in
theorem ggX9_answer_X9_isHand : GoodIn wsX9_answer wsX9_isHand := goodIn_r _ [7, 8, 9, 10, 6, 11, 61, 62, 63, 64, 65, 66, 67, 68, 69, 70, 71, 72, 73, 74, 75, 76, 77, 78, 79, 80, 81, 82, 83, 84, 85, 86, 87, 88, 89, 90, 91, 92, 93, 94, 95, 96, 97] (by decide +kernel) (by decide +kernel)
set_option maxRecDepth 20000 in
theorem gX9_answer_X9_isHand : GoodIn wsX9_answer (wsV RX9 168 RX9 yX9_isHand wsX9_isHand) := goodIn_app (goodIn_of _ (by decide +kernel)) ggX9_answer_X9_isHand
set_option maxRecDepth 20000 in
theorem ggX9_answer_X9_isLabel : GoodIn wsX9_answer wsX9_isLabel := goodIn_r _ [15, 16, 17, 18, 6, 19, 20, 9, 10, 11, 21, 22, 23, 24, 25, 26, 61, 62, 63, 64, 65, 66, 67, 68, 69, 70, 71, 72, 73, 74, 75, 76, 77, 78, 79, 80, 81, 82, 83, 84, 85, 86, 87, 88, 89, 90, 91, 92, 93, 94, 95, 96, 97] (by decide +kernel) (by decide +kernel)
set_option maxRecDepth 20000 in
theorem gX9_answer_X9_isLabel : GoodIn wsX9_answer (wsV RX9 142 RX9 yX9_isLabel wsX9_isLabel) := goodIn_app (goodIn_of _ (by decide +kernel)) ggX9_answer_X9_isLabel
set_option maxRecDepth 20000 in
theorem ggX9_answer_X9_isOpen : GoodIn wsX9_answer wsX9_isOpen := goodIn_r _ [30, 31, 32, 26, 33, 34, 35, 36, 37, 6, 38, 20, 39, 40, 41, 42, 43, 44, 45, 46, 21, 22, 23, 24, 25, 47, 48, 49, 50, 51, 52, 53, 54, 55, 56, 57, 58, 59, 60, 61, 62, 63, 64, 65, 66, 67, 68, 69, 70, 71, 72, 73, 74, 75, 76, 77, 78, 79, 80, 81, 82, 83, 84, 85, 86, 87, 88, 89, 90, 91, 92, 93, 94, 95, 96, 97] (by decide +kernel) (by decide +kernel)
set_option maxRecDepth 20000 in
theorem gX9_answer_X9_isOpen : GoodIn wsX9_answer (wsV RX9 162 RX9 yX9_isOpen wsX9_isOpen) := goodIn_app (goodIn_of _ (by decide +kernel)) ggX9_answer_X9_isOpen
set_option maxRecDepth 20000 in
theorem ggX9_back_X9_isHand : GoodIn wsX9_back wsX9_isHand := goodIn_r _ [6, 7, 8, 9, 5, 10, 16, 17, 18, 19, 20, 21, 22, 23, 24, 25, 26, 27, 28, 29, 30, 31, 32, 33, 34, 35, 36, 37, 38, 39, 40, 41, 42, 43, 44, 45, 46, 47, 48, 49, 50, 51, 52] (by decide +kernel) (by decide +kernel)
set_option maxRecDepth 20000 in
theorem gX9_back_X9_isHand : GoodIn wsX9_back (wsV RX9 168 RX9 yX9_isHand wsX9_isHand) := goodIn_app (goodIn_of _ (by decide +kernel)) ggX9_back_X9_isHand
set_option maxRecDepth 20000 in
theorem ggX9_back_X9_isItem : GoodIn wsX9_back wsX9_isItem := goodIn_r _ [14, 15, 8, 9, 5, 10, 16, 17, 18, 19, 20, 21, 22, 23, 24, 25, 26, 27, 28, 29, 30, 31, 32, 33, 34, 35, 36, 37, 38, 39, 40, 41, 42, 43, 44, 45, 46, 47, 48, 49, 50, 51, 52] (by decide +kernel) (by decide +kernel)
set_option maxRecDepth 20000 in
theorem gX9_back_X9_isItem : GoodIn wsX9_back (wsV RX9 134 RX9 yX9_isItem wsX9_isItem) := goodIn_app (goodIn_of _ (by decide +kernel)) ggX9_back_X9_isItem
set_option maxRecDepth 20000 in
theorem ggX9_said_X9_isHand : GoodIn wsX9_said wsX9_isHand := goodIn_r _ [6, 7, 8, 9, 5, 10, 16, 17, 18, 19, 20, 21, 22, 23, 24, 25, 26, 27, 28, 29, 30, 31, 32, 33, 34, 35, 36, 37, 38, 39, 40, 41, 42, 43, 44, 45, 46, 47, 48, 49, 50, 51, 52] (by decide +kernel) (by decide +kernel)
set_option maxRecDepth 20000 in
theorem gX9_said_X9_isHand : GoodIn wsX9_said (wsV RX9 168 RX9 yX9_isHand wsX9_isHand) := goodIn_app (goodIn_of _ (by decide +kernel)) ggX9_said_X9_isHand
set_option maxRecDepth 20000 in
theorem ggX9_said_X9_isItem : GoodIn wsX9_said wsX9_isItem := goodIn_r _ [14, 15, 8, 9, 5, 10, 16, 17, 18, 19, 20, 21, 22, 23, 24, 25, 26, 27, 28, 29, 30, 31, 32, 33, 34, 35, 36, 37, 38, 39, 40, 41, 42, 43, 44, 45, 46, 47, 48, 49, 50, 51, 52] (by decide +kernel) (by decide +kernel)
set_option maxRecDepth 20000 in
theorem gX9_said_X9_isItem : GoodIn wsX9_said (wsV RX9 134 RX9 yX9_isItem wsX9_isItem) := goodIn_app (goodIn_of _ (by decide +kernel)) ggX9_said_X9_isItem
set_option maxRecDepth 20000 in
theorem ggX9_set_X9_in : GoodIn wsX9_set wsX9_in := goodIn_r _ [6] (by decide +kernel) (by decide +kernel)
set_option maxRecDepth 20000 in
theorem gX9_set_X9_in : GoodIn wsX9_set (va_wsS RX9 93 yX9_in wsX9_in) := goodIn_app (goodIn_of _ (by decide +kernel)) ggX9_set_X9_in
set_option maxRecDepth 20000 in
theorem ggX9_beginShares_X9_countOf : GoodIn wsX9_beginShares wsX9_countOf := goodIn_r _ [10, 2, 11, 12, 13, 9, 14, 15, 3, 28, 29, 30, 31, 32, 33, 34, 35, 36, 37, 38, 39, 40, 41, 42, 43, 44, 45, 46, 47, 48, 49, 50, 51, 52, 53, 54, 55, 56, 57, 58, 59, 60, 61, 62, 63, 64] (by decide +kernel) (by decide +kernel)
set_option maxRecDepth 20000 in
theorem gX9_beginShares_X9_countOf : GoodIn wsX9_beginShares (wsV RX9 165 RX9 yX9_countOf wsX9_countOf) := goodIn_app (goodIn_of _ (by decide +kernel)) ggX9_beginShares_X9_countOf
set_option maxRecDepth 20000 in
theorem ggX9_beginShares_X9_labelsOf : GoodIn wsX9_beginShares wsX9_labelsOf := goodIn_r _ [19, 20, 21, 28, 29, 30, 31, 32, 33, 34, 35, 36, 37, 38, 39, 40, 41, 42, 43, 44, 45, 46, 47, 48, 49, 50, 51, 52, 53, 54, 55, 56, 57, 58, 59, 60, 61, 62, 63, 64] (by decide +kernel) (by decide +kernel)
set_option maxRecDepth 20000 in
theorem gX9_beginShares_X9_labelsOf : GoodIn wsX9_beginShares (wsV RX9 138 RX9 yX9_labelsOf wsX9_labelsOf) := goodIn_app (goodIn_of _ (by decide +kernel)) ggX9_beginShares_X9_labelsOf
set_option maxRecDepth 20000 in
theorem ggX9_beginShares_X9_counts : GoodIn wsX9_beginShares wsX9_counts := goodIn_r _ [14, 15, 3, 28, 29, 30, 31, 32, 33, 34, 35, 36, 37, 38, 39, 40, 41, 42, 43, 44, 45, 46, 47, 48, 49, 50, 51, 52, 53, 54, 55, 56, 57, 58, 59, 60, 61, 62, 63, 64] (by decide +kernel) (by decide +kernel)
set_option maxRecDepth 20000 in
theorem gX9_beginShares_X9_counts : GoodIn wsX9_beginShares (wsV RX9 159 RX9 yX9_counts wsX9_counts) := goodIn_app (goodIn_of _ (by decide +kernel)) ggX9_beginShares_X9_counts
set_option maxRecDepth 20000 in
theorem ggX9_beginShares_X9_fixed : GoodIn wsX9_beginShares wsX9_fixed := goodIn_r _ [25, 26, 27, 28, 29, 30, 31, 32, 33, 34, 35, 36, 37, 38, 39, 40, 41, 42, 43, 44, 45, 46, 47, 48, 49, 50, 51, 52, 53, 54, 55, 56, 57, 58, 59, 60, 61, 62, 63, 64] (by decide +kernel) (by decide +kernel)
set_option maxRecDepth 20000 in
theorem gX9_beginShares_X9_fixed : GoodIn wsX9_beginShares (wsV RX9 146 RX9 yX9_fixed wsX9_fixed) := goodIn_app (goodIn_of _ (by decide +kernel)) ggX9_beginShares_X9_fixed
set_option maxRecDepth 20000 in
theorem ggX9_saidBy_X9_labelsOf : GoodIn wsX9_saidBy wsX9_labelsOf := goodIn_r _ [10, 11, 12, 18, 19, 20, 21, 22, 23, 24, 25, 26, 27, 28, 29, 30, 31, 32, 33, 34, 35, 36, 37, 38, 39, 40, 41, 42, 43, 44, 45, 46, 47, 48, 49, 50, 51, 52, 53, 54] (by decide +kernel) (by decide +kernel)
set_option maxRecDepth 20000 in
theorem gX9_saidBy_X9_labelsOf : GoodIn wsX9_saidBy (wsV RX9 138 RX9 yX9_labelsOf wsX9_labelsOf) := goodIn_app (goodIn_of _ (by decide +kernel)) ggX9_saidBy_X9_labelsOf
set_option maxRecDepth 20000 in
theorem ggX9_saidBy_X9_counts : GoodIn wsX9_saidBy wsX9_counts := goodIn_r _ [16, 17, 4, 18, 19, 20, 21, 22, 23, 24, 25, 26, 27, 28, 29, 30, 31, 32, 33, 34, 35, 36, 37, 38, 39, 40, 41, 42, 43, 44, 45, 46, 47, 48, 49, 50, 51, 52, 53, 54] (by decide +kernel) (by decide +kernel)
set_option maxRecDepth 20000 in
theorem gX9_saidBy_X9_counts : GoodIn wsX9_saidBy (wsV RX9 159 RX9 yX9_counts wsX9_counts) := goodIn_app (goodIn_of _ (by decide +kernel)) ggX9_saidBy_X9_counts
set_option maxRecDepth 20000 in
theorem ggX9_layTables_X9_saidBy : GoodIn wsX9_layTables wsX9_saidBy := goodIn_r _ [8, 9, 10, 11, 12, 13, 14, 15, 16, 7, 17, 18, 19, 20, 21, 22, 23, 24, 28, 29, 30, 31, 32, 33, 34, 35, 36, 37, 38, 39, 40, 41, 42, 43, 44, 45, 46, 47, 48, 49, 50, 51, 52, 53, 54, 55, 56, 57, 58, 59, 60, 61, 62, 63, 64] (by decide +kernel) (by decide +kernel)
set_option maxRecDepth 20000 in
theorem gX9_layTables_X9_saidBy : GoodIn wsX9_layTables (wsV RX9 174 RX9 yX9_saidBy wsX9_saidBy) := goodIn_app (goodIn_of _ (by decide +kernel)) ggX9_layTables_X9_saidBy
set_option maxRecDepth 20000 in
theorem ggX9_layTables_X9_at : GoodIn wsX9_layTables wsX9_at := goodIn_r _ [27] (by decide +kernel) (by decide +kernel)
set_option maxRecDepth 20000 in
theorem gX9_layTables_X9_at : GoodIn wsX9_layTables (va_wsS RX9 178 yX9_at wsX9_at) := goodIn_app (goodIn_of _ (by decide +kernel)) ggX9_layTables_X9_at
set_option maxRecDepth 20000 in
theorem ggX9_turnShares_X9_labelsOf : GoodIn wsX9_turnShares wsX9_labelsOf := goodIn_r _ [13, 14, 15, 34, 35, 36, 37, 38, 39, 40, 41, 42, 43, 44, 45, 46, 47, 48, 49, 50, 51, 52, 53, 54, 55, 56, 57, 58, 59, 60, 61, 62, 63, 64, 65, 66, 67, 68, 69, 70] (by decide +kernel) (by decide +kernel)
set_option maxRecDepth 20000 in
theorem gX9_turnShares_X9_labelsOf : GoodIn wsX9_turnShares (wsV RX9 138 RX9 yX9_labelsOf wsX9_labelsOf) := goodIn_app (goodIn_of _ (by decide +kernel)) ggX9_turnShares_X9_labelsOf
set_option maxRecDepth 20000 in
theorem ggX9_turnShares_X9_fixed : GoodIn wsX9_turnShares wsX9_fixed := goodIn_r _ [19, 20, 21, 34, 35, 36, 37, 38, 39, 40, 41, 42, 43, 44, 45, 46, 47, 48, 49, 50, 51, 52, 53, 54, 55, 56, 57, 58, 59, 60, 61, 62, 63, 64, 65, 66, 67, 68, 69, 70] (by decide +kernel) (by decide +kernel)
set_option maxRecDepth 20000 in
theorem gX9_turnShares_X9_fixed : GoodIn wsX9_turnShares (wsV RX9 146 RX9 yX9_fixed wsX9_fixed) := goodIn_app (goodIn_of _ (by decide +kernel)) ggX9_turnShares_X9_fixed
set_option maxRecDepth 20000 in
theorem ggX9_turnShares_X9_countOf : GoodIn wsX9_turnShares wsX9_countOf := goodIn_r _ [25, 4, 26, 27, 28, 12, 29, 30, 5, 34, 35, 36, 37, 38, 39, 40, 41, 42, 43, 44, 45, 46, 47, 48, 49, 50, 51, 52, 53, 54, 55, 56, 57, 58, 59, 60, 61, 62, 63, 64, 65, 66, 67, 68, 69, 70] (by decide +kernel) (by decide +kernel)
set_option maxRecDepth 20000 in
theorem gX9_turnShares_X9_countOf : GoodIn wsX9_turnShares (wsV RX9 165 RX9 yX9_countOf wsX9_countOf) := goodIn_app (goodIn_of _ (by decide +kernel)) ggX9_turnShares_X9_countOf
set_option maxRecDepth 20000 in
theorem ggX9_turnShares_X9_counts : GoodIn wsX9_turnShares wsX9_counts := goodIn_r _ [29, 30, 5, 34, 35, 36, 37, 38, 39, 40, 41, 42, 43, 44, 45, 46, 47, 48, 49, 50, 51, 52, 53, 54, 55, 56, 57, 58, 59, 60, 61, 62, 63, 64, 65, 66, 67, 68, 69, 70] (by decide +kernel) (by decide +kernel)
set_option maxRecDepth 20000 in
theorem gX9_turnShares_X9_counts : GoodIn wsX9_turnShares (wsV RX9 159 RX9 yX9_counts wsX9_counts) := goodIn_app (goodIn_of _ (by decide +kernel)) ggX9_turnShares_X9_counts
set_option maxRecDepth 20000 in
theorem ggX9_turnShares_X9_at : GoodIn wsX9_turnShares wsX9_at := goodIn_r _ [33] (by decide +kernel) (by decide +kernel)
set_option maxRecDepth 20000 in
theorem gX9_turnShares_X9_at : GoodIn wsX9_turnShares (va_wsS RX9 178 yX9_at wsX9_at) := goodIn_app (goodIn_of _ (by decide +kernel)) ggX9_turnShares_X9_at
set_option maxRecDepth 20000 in
theorem ggX9_joinAll_X9_beginShares : GoodIn wsX9_joinAll wsX9_beginShares := goodIn_r _ [6, 7, 8, 9, 10, 11, 12, 13, 14, 5, 15, 16, 17, 18, 19, 20, 21, 22, 23, 24, 25, 26, 27, 28, 29, 30, 31, 32, 53, 54, 55, 56, 57, 58, 59, 60, 61, 62, 63, 64, 65, 66, 67, 68, 69, 70, 71, 72, 73, 74, 75, 76, 77, 78, 79, 80, 81, 82, 83, 84, 85, 86, 87, 88, 89] (by decide +kernel) (by decide +kernel)
set_option maxRecDepth 20000 in
theorem gX9_joinAll_X9_beginShares : GoodIn wsX9_joinAll (wsV RX9 186 RX9 yX9_beginShares wsX9_beginShares) := goodIn_app (goodIn_of _ (by decide +kernel)) ggX9_joinAll_X9_beginShares
set_option maxRecDepth 20000 in
theorem ggX9_joinAll_X9_layTables : GoodIn wsX9_joinAll wsX9_layTables := goodIn_r _ [36, 8, 37, 38, 39, 40, 41, 5, 42, 43, 1, 7, 9, 10, 21, 22, 23, 24, 25, 26, 16, 17, 18, 19, 20, 44, 45, 46, 53, 54, 55, 56, 57, 58, 59, 60, 61, 62, 63, 64, 65, 66, 67, 68, 69, 70, 71, 72, 73, 74, 75, 76, 77, 78, 79, 80, 81, 82, 83, 84, 85, 86, 87, 88, 89] (by decide +kernel) (by decide +kernel)
set_option maxRecDepth 20000 in
theorem gX9_joinAll_X9_layTables : GoodIn wsX9_joinAll (wsV RX9 189 RX9 yX9_layTables wsX9_layTables) := goodIn_app (goodIn_of _ (by decide +kernel)) ggX9_joinAll_X9_layTables
set_option maxRecDepth 20000 in
theorem ggX9_joinAll_X9_turnShares : GoodIn wsX9_joinAll wsX9_turnShares := goodIn_r _ [50, 7, 51, 11, 8, 9, 37, 52, 10, 21, 22, 23, 5, 24, 25, 26, 27, 28, 29, 30, 31, 32, 12, 13, 14, 15, 16, 17, 18, 19, 20, 44, 45, 46, 53, 54, 55, 56, 57, 58, 59, 60, 61, 62, 63, 64, 65, 66, 67, 68, 69, 70, 71, 72, 73, 74, 75, 76, 77, 78, 79, 80, 81, 82, 83, 84, 85, 86, 87, 88, 89] (by decide +kernel) (by decide +kernel)
set_option maxRecDepth 20000 in
theorem gX9_joinAll_X9_turnShares : GoodIn wsX9_joinAll (wsV RX9 192 RX9 yX9_turnShares wsX9_turnShares) := goodIn_app (goodIn_of _ (by decide +kernel)) ggX9_joinAll_X9_turnShares
set_option maxRecDepth 20000 in
theorem ggX9_join_X9_joinAll : GoodIn wsX9_join wsX9_joinAll := goodIn_r _ [10, 11, 12, 13, 14, 9, 15, 2, 4, 16, 17, 18, 19, 20, 21, 22, 23, 24, 25, 26, 27, 28, 29, 30, 31, 32, 33, 34, 35, 36, 37, 38, 39, 40, 41, 42, 43, 44, 45, 46, 47, 48, 49, 50, 51, 52, 53, 54, 55, 56, 57, 58, 59, 60, 61, 62, 63, 64, 65, 66, 67, 68, 69, 70, 71, 72, 73, 74, 75, 76, 77, 78, 79, 80, 81, 82, 83, 84, 85, 86, 87, 88, 89, 90, 91, 92, 93, 94, 95, 96] (by decide +kernel) (by decide +kernel)
set_option maxRecDepth 20000 in
theorem gX9_join_X9_joinAll : GoodIn wsX9_join (wsV RX9 195 RX9 yX9_joinAll wsX9_joinAll) := goodIn_app (goodIn_of _ (by decide +kernel)) ggX9_join_X9_joinAll
set_option maxRecDepth 20000 in
theorem ggX9_share_X9_isLabel : GoodIn wsX9_share wsX9_isLabel := goodIn_r _ [5, 6, 7, 8, 4, 9, 10, 11, 12, 13, 14, 15, 16, 17, 18, 19, 34, 35, 36, 37, 38, 39, 40, 41, 42, 43, 44, 45, 46, 47, 48, 49, 50, 51, 52, 53, 54, 55, 56, 57, 58, 59, 60, 61, 62, 63, 64, 65, 66, 67, 68, 69, 70] (by decide +kernel) (by decide +kernel)
set_option maxRecDepth 20000 in
theorem gX9_share_X9_isLabel : GoodIn wsX9_share (wsV RX9 142 RX9 yX9_isLabel wsX9_isLabel) := goodIn_app (goodIn_of _ (by decide +kernel)) ggX9_share_X9_isLabel
set_option maxRecDepth 20000 in
theorem ggX9_share_X9_shareOf : GoodIn wsX9_share wsX9_shareOf := goodIn_r _ [23, 24, 25, 26, 27, 28, 29, 30, 4, 31, 32, 33, 14, 15, 16, 17, 18, 19, 34, 35, 36, 37, 38, 39, 40, 41, 42, 43, 44, 45, 46, 47, 48, 49, 50, 51, 52, 53, 54, 55, 56, 57, 58, 59, 60, 61, 62, 63, 64, 65, 66, 67, 68, 69, 70] (by decide +kernel) (by decide +kernel)
set_option maxRecDepth 20000 in
theorem gX9_share_X9_shareOf : GoodIn wsX9_share (wsV RX9 150 RX9 yX9_shareOf wsX9_shareOf) := goodIn_app (goodIn_of _ (by decide +kernel)) ggX9_share_X9_shareOf
set_option maxRecDepth 20000 in
theorem ggX9_table_X9_isHand : GoodIn wsX9_table wsX9_isHand := goodIn_r _ [8, 9, 10, 11, 7, 12, 16, 17, 18, 19, 20, 21, 22, 23, 24, 25, 26, 27, 28, 29, 30, 31, 32, 33, 34, 35, 36, 37, 38, 39, 40, 41, 42, 43, 44, 45, 46, 47, 48, 49, 50, 51, 52] (by decide +kernel) (by decide +kernel)
set_option maxRecDepth 20000 in
theorem gX9_table_X9_isHand : GoodIn wsX9_table (wsV RX9 168 RX9 yX9_isHand wsX9_isHand) := goodIn_app (goodIn_of _ (by decide +kernel)) ggX9_table_X9_isHand
set_option maxRecDepth 20000 in
theorem ggX9_table_X9_in : GoodIn wsX9_table wsX9_in := goodIn_r _ [12] (by decide +kernel) (by decide +kernel)
set_option maxRecDepth 20000 in
theorem gX9_table_X9_in : GoodIn wsX9_table (va_wsS RX9 93 yX9_in wsX9_in) := goodIn_app (goodIn_of _ (by decide +kernel)) ggX9_table_X9_in
set_option maxRecDepth 20000 in
theorem ggX9_table_X9_at : GoodIn wsX9_table wsX9_at := goodIn_r _ [15] (by decide +kernel) (by decide +kernel)
set_option maxRecDepth 20000 in
theorem gX9_table_X9_at : GoodIn wsX9_table (va_wsS RX9 178 yX9_at wsX9_at) := goodIn_app (goodIn_of _ (by decide +kernel)) ggX9_table_X9_at
set_option maxRecDepth 20000 in
theorem ggX9_helpOf_X9_labelsOf : GoodIn wsX9_helpOf wsX9_labelsOf := goodIn_r _ [7, 8, 9, 31, 32, 33, 34, 35, 36, 37, 38, 39, 40, 41, 42, 43, 44, 45, 46, 47, 48, 49, 50, 51, 52, 53, 54, 55, 56, 57, 58, 59, 60, 61, 62, 63, 64, 65, 66, 67] (by decide +kernel) (by decide +kernel)
set_option maxRecDepth 20000 in
theorem gX9_helpOf_X9_labelsOf : GoodIn wsX9_helpOf (wsV RX9 138 RX9 yX9_labelsOf wsX9_labelsOf) := goodIn_app (goodIn_of _ (by decide +kernel)) ggX9_helpOf_X9_labelsOf
set_option maxRecDepth 20000 in
theorem ggX9_helpOf_X9_shareOf : GoodIn wsX9_helpOf wsX9_shareOf := goodIn_r _ [13, 14, 15, 16, 17, 18, 19, 20, 6, 21, 22, 23, 3, 4, 5, 7, 8, 9, 31, 32, 33, 34, 35, 36, 37, 38, 39, 40, 41, 42, 43, 44, 45, 46, 47, 48, 49, 50, 51, 52, 53, 54, 55, 56, 57, 58, 59, 60, 61, 62, 63, 64, 65, 66, 67] (by decide +kernel) (by decide +kernel)
set_option maxRecDepth 20000 in
theorem gX9_helpOf_X9_shareOf : GoodIn wsX9_helpOf (wsV RX9 150 RX9 yX9_shareOf wsX9_shareOf) := goodIn_app (goodIn_of _ (by decide +kernel)) ggX9_helpOf_X9_shareOf
set_option maxRecDepth 20000 in
theorem ggX9_helpOf_X9_at : GoodIn wsX9_helpOf wsX9_at := goodIn_r _ [26] (by decide +kernel) (by decide +kernel)
set_option maxRecDepth 20000 in
theorem gX9_helpOf_X9_at : GoodIn wsX9_helpOf (va_wsS RX9 178 yX9_at wsX9_at) := goodIn_app (goodIn_of _ (by decide +kernel)) ggX9_helpOf_X9_at
set_option maxRecDepth 20000 in
theorem ggX9_helpOf_X9_endOf : GoodIn wsX9_helpOf wsX9_endOf := goodIn_r _ [30, 3, 4, 5, 6, 7, 8, 9, 10, 11, 12, 13, 14, 15, 16, 17, 18, 19, 20, 21, 22, 23, 31, 32, 33, 34, 35, 36, 37, 38, 39, 40, 41, 42, 43, 44, 45, 46, 47, 48, 49, 50, 51, 52, 53, 54, 55, 56, 57, 58, 59, 60, 61, 62, 63, 64, 65, 66, 67] (by decide +kernel) (by decide +kernel)
set_option maxRecDepth 20000 in
theorem gX9_helpOf_X9_endOf : GoodIn wsX9_helpOf (wsV RX9 153 RX9 yX9_endOf wsX9_endOf) := goodIn_app (goodIn_of _ (by decide +kernel)) ggX9_helpOf_X9_endOf
set_option maxRecDepth 20000 in
theorem ggX9_next_X9_in : GoodIn wsX9_next wsX9_in := goodIn_r _ [10] (by decide +kernel) (by decide +kernel)
set_option maxRecDepth 20000 in
theorem gX9_next_X9_in : GoodIn wsX9_next (va_wsS RX9 93 yX9_in wsX9_in) := goodIn_app (goodIn_of _ (by decide +kernel)) ggX9_next_X9_in
set_option maxRecDepth 20000 in
theorem ggX9_next_X9_fixed : GoodIn wsX9_next wsX9_fixed := goodIn_r _ [14, 15, 16, 59, 60, 61, 62, 63, 64, 65, 66, 67, 68, 69, 70, 71, 72, 73, 74, 75, 76, 77, 78, 79, 80, 81, 82, 83, 84, 85, 86, 87, 88, 89, 90, 91, 92, 93, 94, 95] (by decide +kernel) (by decide +kernel)
set_option maxRecDepth 20000 in
theorem gX9_next_X9_fixed : GoodIn wsX9_next (wsV RX9 146 RX9 yX9_fixed wsX9_fixed) := goodIn_app (goodIn_of _ (by decide +kernel)) ggX9_next_X9_fixed
set_option maxRecDepth 20000 in
theorem ggX9_next_X9_isOpen : GoodIn wsX9_next wsX9_isOpen := goodIn_r _ [20, 21, 22, 23, 24, 25, 26, 27, 28, 9, 29, 4, 30, 31, 32, 33, 34, 35, 36, 37, 38, 39, 40, 41, 42, 43, 44, 45, 46, 47, 1, 48, 49, 11, 12, 13, 14, 15, 16, 59, 60, 61, 62, 63, 64, 65, 66, 67, 68, 69, 70, 71, 72, 73, 74, 75, 76, 77, 78, 79, 80, 81, 82, 83, 84, 85, 86, 87, 88, 89, 90, 91, 92, 93, 94, 95] (by decide +kernel) (by decide +kernel)
set_option maxRecDepth 20000 in
theorem gX9_next_X9_isOpen : GoodIn wsX9_next (wsV RX9 162 RX9 yX9_isOpen wsX9_isOpen) := goodIn_app (goodIn_of _ (by decide +kernel)) ggX9_next_X9_isOpen
set_option maxRecDepth 20000 in
theorem ggX9_next_X9_helpOf : GoodIn wsX9_next wsX9_helpOf := goodIn_r _ [53, 54, 55, 38, 39, 40, 9, 41, 42, 23, 43, 44, 45, 46, 47, 1, 48, 49, 11, 12, 13, 14, 15, 16, 56, 57, 58, 34, 35, 36, 37, 59, 60, 61, 62, 63, 64, 65, 66, 67, 68, 69, 70, 71, 72, 73, 74, 75, 76, 77, 78, 79, 80, 81, 82, 83, 84, 85, 86, 87, 88, 89, 90, 91, 92, 93, 94, 95] (by decide +kernel) (by decide +kernel)
set_option maxRecDepth 20000 in
theorem gX9_next_X9_helpOf : GoodIn wsX9_next (wsV RX9 198 RX9 yX9_helpOf wsX9_helpOf) := goodIn_app (goodIn_of _ (by decide +kernel)) ggX9_next_X9_helpOf
set_option maxRecDepth 20000 in
theorem ggX9_knownBy_X9_counts : GoodIn wsX9_knownBy wsX9_counts := goodIn_r _ [7, 8, 9, 10, 11, 12, 13, 14, 15, 16, 17, 18, 19, 20, 21, 22, 23, 24, 25, 26, 27, 28, 29, 30, 31, 32, 33, 34, 35, 36, 37, 38, 39, 40, 41, 42, 43, 44, 45, 46] (by decide +kernel) (by decide +kernel)
set_option maxRecDepth 20000 in
theorem gX9_knownBy_X9_counts : GoodIn wsX9_knownBy (wsV RX9 159 RX9 yX9_counts wsX9_counts) := goodIn_app (goodIn_of _ (by decide +kernel)) ggX9_knownBy_X9_counts
set_option maxRecDepth 20000 in
theorem ggX9_rightBy_X9_counts : GoodIn wsX9_rightBy wsX9_counts := goodIn_r _ [7, 8, 9, 14, 15, 16, 17, 18, 19, 20, 21, 22, 23, 24, 25, 26, 27, 28, 29, 30, 31, 32, 33, 34, 35, 36, 37, 38, 39, 40, 41, 42, 43, 44, 45, 46, 47, 48, 49, 50] (by decide +kernel) (by decide +kernel)
set_option maxRecDepth 20000 in
theorem gX9_rightBy_X9_counts : GoodIn wsX9_rightBy (wsV RX9 159 RX9 yX9_counts wsX9_counts) := goodIn_app (goodIn_of _ (by decide +kernel)) ggX9_rightBy_X9_counts
set_option maxRecDepth 20000 in
theorem ggX9_rightBy_X9_isRight : GoodIn wsX9_rightBy wsX9_isRight := goodIn_r _ [13, 9, 2, 14, 15, 16, 17, 18, 19, 20, 21, 22, 23, 24, 25, 26, 27, 28, 29, 30, 31, 32, 33, 34, 35, 36, 37, 38, 39, 40, 41, 42, 43, 44, 45, 46, 47, 48, 49, 50] (by decide +kernel) (by decide +kernel)
set_option maxRecDepth 20000 in
theorem gX9_rightBy_X9_isRight : GoodIn wsX9_rightBy (wsV RX9 201 RX9 yX9_isRight wsX9_isRight) := goodIn_app (goodIn_of _ (by decide +kernel)) ggX9_rightBy_X9_isRight
set_option maxRecDepth 20000 in
theorem ggX9_answersBy_X9_counts : GoodIn wsX9_answersBy wsX9_counts := goodIn_r _ [6, 7, 8, 9, 10, 11, 12, 13, 14, 15, 16, 17, 18, 19, 20, 21, 22, 23, 24, 25, 26, 27, 28, 29, 30, 31, 32, 33, 34, 35, 36, 37, 38, 39, 40, 41, 42, 43, 44, 45] (by decide +kernel) (by decide +kernel)
set_option maxRecDepth 20000 in
theorem gX9_answersBy_X9_counts : GoodIn wsX9_answersBy (wsV RX9 159 RX9 yX9_counts wsX9_counts) := goodIn_app (goodIn_of _ (by decide +kernel)) ggX9_answersBy_X9_counts
set_option maxRecDepth 20000 in
theorem ggX9_right_X9_isHand : GoodIn wsX9_right wsX9_isHand := goodIn_r _ [6, 7, 8, 9, 5, 10, 35, 36, 37, 38, 39, 40, 41, 42, 43, 44, 45, 46, 47, 48, 49, 50, 51, 52, 53, 54, 55, 56, 57, 58, 59, 60, 61, 62, 63, 64, 65, 66, 67, 68, 69, 70, 71] (by decide +kernel) (by decide +kernel)
set_option maxRecDepth 20000 in
theorem gX9_right_X9_isHand : GoodIn wsX9_right (wsV RX9 168 RX9 yX9_isHand wsX9_isHand) := goodIn_app (goodIn_of _ (by decide +kernel)) ggX9_right_X9_isHand
set_option maxRecDepth 20000 in
theorem ggX9_right_X9_answersBy : GoodIn wsX9_right wsX9_answersBy := goodIn_r _ [14, 15, 16, 17, 18, 5, 19, 20, 21, 35, 36, 37, 38, 39, 40, 41, 42, 43, 44, 45, 46, 47, 48, 49, 50, 51, 52, 53, 54, 55, 56, 57, 58, 59, 60, 61, 62, 63, 64, 65, 66, 67, 68, 69, 70, 71] (by decide +kernel) (by decide +kernel)
set_option maxRecDepth 20000 in
theorem gX9_right_X9_answersBy : GoodIn wsX9_right (wsV RX9 204 RX9 yX9_answersBy wsX9_answersBy) := goodIn_app (goodIn_of _ (by decide +kernel)) ggX9_right_X9_answersBy
set_option maxRecDepth 20000 in
theorem ggX9_right_X9_knownBy : GoodIn wsX9_right wsX9_knownBy := goodIn_r _ [25, 15, 26, 16, 17, 18, 5, 19, 20, 21, 35, 36, 37, 38, 39, 40, 41, 42, 43, 44, 45, 46, 47, 48, 49, 50, 51, 52, 53, 54, 55, 56, 57, 58, 59, 60, 61, 62, 63, 64, 65, 66, 67, 68, 69, 70, 71] (by decide +kernel) (by decide +kernel)
set_option maxRecDepth 20000 in
theorem gX9_right_X9_knownBy : GoodIn wsX9_right (wsV RX9 207 RX9 yX9_knownBy wsX9_knownBy) := goodIn_app (goodIn_of _ (by decide +kernel)) ggX9_right_X9_knownBy
set_option maxRecDepth 20000 in
theorem ggX9_right_X9_rightBy : GoodIn wsX9_right wsX9_rightBy := goodIn_r _ [30, 15, 26, 16, 17, 18, 5, 19, 20, 21, 31, 32, 33, 34, 35, 36, 37, 38, 39, 40, 41, 42, 43, 44, 45, 46, 47, 48, 49, 50, 51, 52, 53, 54, 55, 56, 57, 58, 59, 60, 61, 62, 63, 64, 65, 66, 67, 68, 69, 70, 71] (by decide +kernel) (by decide +kernel)
set_option maxRecDepth 20000 in
theorem gX9_right_X9_rightBy : GoodIn wsX9_right (wsV RX9 210 RX9 yX9_rightBy wsX9_rightBy) := goodIn_app (goodIn_of _ (by decide +kernel)) ggX9_right_X9_rightBy
set_option maxRecDepth 20000 in
theorem ggX9_term_X9_common : GoodIn wsX9_term wsX9_common := goodIn_r _ [4] (by decide +kernel) (by decide +kernel)
set_option maxRecDepth 20000 in
theorem gX9_term_X9_common : GoodIn wsX9_term (va_wsS RX9 213 yX9_common wsX9_common) := goodIn_app (goodIn_of _ (by decide +kernel)) ggX9_term_X9_common
set_option maxRecDepth 20000 in
theorem ggX9_oddsFrom_X9_term : GoodIn wsX9_oddsFrom wsX9_term := goodIn_r _ [7, 8, 9, 6, 10] (by decide +kernel) (by decide +kernel)
set_option maxRecDepth 20000 in
theorem gX9_oddsFrom_X9_term : GoodIn wsX9_oddsFrom (va_wsS RX9 224 yX9_term wsX9_term) := goodIn_app (goodIn_of _ (by decide +kernel)) ggX9_oddsFrom_X9_term
set_option maxRecDepth 20000 in
theorem ggX9_guessing_X9_isHand : GoodIn wsX9_guessing wsX9_isHand := goodIn_r _ [9, 10, 11, 12, 8, 13, 55, 56, 57, 58, 59, 60, 61, 62, 63, 64, 65, 66, 67, 68, 69, 70, 71, 72, 73, 74, 75, 76, 77, 78, 79, 80, 81, 82, 83, 84, 85, 86, 87, 88, 89, 90, 91] (by decide +kernel) (by decide +kernel)
set_option maxRecDepth 20000 in
theorem gX9_guessing_X9_isHand : GoodIn wsX9_guessing (wsV RX9 168 RX9 yX9_isHand wsX9_isHand) := goodIn_app (goodIn_of _ (by decide +kernel)) ggX9_guessing_X9_isHand
set_option maxRecDepth 20000 in
theorem ggX9_guessing_X9_in : GoodIn wsX9_guessing wsX9_in := goodIn_r _ [13] (by decide +kernel) (by decide +kernel)
set_option maxRecDepth 20000 in
theorem gX9_guessing_X9_in : GoodIn wsX9_guessing (va_wsS RX9 93 yX9_in wsX9_in) := goodIn_app (goodIn_of _ (by decide +kernel)) ggX9_guessing_X9_in
set_option maxRecDepth 20000 in
theorem ggX9_guessing_X9_beginWays : GoodIn wsX9_guessing wsX9_beginWays := goodIn_r _ [17, 18, 19, 20, 55, 56, 57, 58, 59, 60, 61, 62, 63, 64, 65, 66, 67, 68, 69, 70, 71, 72, 73, 74, 75, 76, 77, 78, 79, 80, 81, 82, 83, 84, 85, 86, 87, 88, 89, 90, 91] (by decide +kernel) (by decide +kernel)
set_option maxRecDepth 20000 in
theorem gX9_guessing_X9_beginWays : GoodIn wsX9_guessing (wsV RX9 232 RX9 yX9_beginWays wsX9_beginWays) := goodIn_app (goodIn_of _ (by decide +kernel)) ggX9_guessing_X9_beginWays
set_option maxRecDepth 20000 in
theorem ggX9_guessing_X9_counts : GoodIn wsX9_guessing wsX9_counts := goodIn_r _ [24, 25, 26, 55, 56, 57, 58, 59, 60, 61, 62, 63, 64, 65, 66, 67, 68, 69, 70, 71, 72, 73, 74, 75, 76, 77, 78, 79, 80, 81, 82, 83, 84, 85, 86, 87, 88, 89, 90, 91] (by decide +kernel) (by decide +kernel)
set_option maxRecDepth 20000 in
theorem gX9_guessing_X9_counts : GoodIn wsX9_guessing (wsV RX9 159 RX9 yX9_counts wsX9_counts) := goodIn_app (goodIn_of _ (by decide +kernel)) ggX9_guessing_X9_counts
set_option maxRecDepth 20000 in
theorem ggX9_guessing_X9_labelsOf : GoodIn wsX9_guessing wsX9_labelsOf := goodIn_r _ [30, 31, 32, 55, 56, 57, 58, 59, 60, 61, 62, 63, 64, 65, 66, 67, 68, 69, 70, 71, 72, 73, 74, 75, 76, 77, 78, 79, 80, 81, 82, 83, 84, 85, 86, 87, 88, 89, 90, 91] (by decide +kernel) (by decide +kernel)
set_option maxRecDepth 20000 in
theorem gX9_guessing_X9_labelsOf : GoodIn wsX9_guessing (wsV RX9 138 RX9 yX9_labelsOf wsX9_labelsOf) := goodIn_app (goodIn_of _ (by decide +kernel)) ggX9_guessing_X9_labelsOf
set_option maxRecDepth 20000 in
theorem ggX9_guessing_X9_drawFrom : GoodIn wsX9_guessing wsX9_drawFrom := goodIn_r _ [36, 20, 18, 19, 55, 56, 57, 58, 59, 60, 61, 62, 63, 64, 65, 66, 67, 68, 69, 70, 71, 72, 73, 74, 75, 76, 77, 78, 79, 80, 81, 82, 83, 84, 85, 86, 87, 88, 89, 90, 91] (by decide +kernel) (by decide +kernel)
set_option maxRecDepth 20000 in
theorem gX9_guessing_X9_drawFrom : GoodIn wsX9_guessing (wsV RX9 235 RX9 yX9_drawFrom wsX9_drawFrom) := goodIn_app (goodIn_of _ (by decide +kernel)) ggX9_guessing_X9_drawFrom
set_option maxRecDepth 20000 in
theorem ggX9_guessing_X9_rightBy : GoodIn wsX9_guessing wsX9_rightBy := goodIn_r _ [40, 3, 4, 21, 22, 23, 8, 24, 25, 26, 41, 42, 43, 44, 55, 56, 57, 58, 59, 60, 61, 62, 63, 64, 65, 66, 67, 68, 69, 70, 71, 72, 73, 74, 75, 76, 77, 78, 79, 80, 81, 82, 83, 84, 85, 86, 87, 88, 89, 90, 91] (by decide +kernel) (by decide +kernel)
set_option maxRecDepth 20000 in
theorem gX9_guessing_X9_rightBy : GoodIn wsX9_guessing (wsV RX9 210 RX9 yX9_rightBy wsX9_rightBy) := goodIn_app (goodIn_of _ (by decide +kernel)) ggX9_guessing_X9_rightBy
set_option maxRecDepth 20000 in
theorem ggX9_guessing_X9_oddsFrom : GoodIn wsX9_guessing wsX9_oddsFrom := goodIn_r _ [48, 20, 18, 19, 49, 50, 8, 51, 52, 53, 54, 55, 56, 57, 58, 59, 60, 61, 62, 63, 64, 65, 66, 67, 68, 69, 70, 71, 72, 73, 74, 75, 76, 77, 78, 79, 80, 81, 82, 83, 84, 85, 86, 87, 88, 89, 90, 91] (by decide +kernel) (by decide +kernel)
set_option maxRecDepth 20000 in
theorem gX9_guessing_X9_oddsFrom : GoodIn wsX9_guessing (wsV RX9 239 RX9 yX9_oddsFrom wsX9_oddsFrom) := goodIn_app (goodIn_of _ (by decide +kernel)) ggX9_guessing_X9_oddsFrom
set_option maxRecDepth 20000 in
theorem ggX9_copying_X9_isHand : GoodIn wsX9_copying wsX9_isHand := goodIn_r _ [10, 11, 12, 13, 9, 14, 46, 47, 48, 49, 50, 51, 52, 53, 54, 55, 56, 57, 58, 59, 60, 61, 62, 63, 64, 65, 66, 67, 68, 69, 70, 71, 72, 73, 74, 75, 76, 77, 78, 79, 80, 81, 82] (by decide +kernel) (by decide +kernel)
set_option maxRecDepth 20000 in
theorem gX9_copying_X9_isHand : GoodIn wsX9_copying (wsV RX9 168 RX9 yX9_isHand wsX9_isHand) := goodIn_app (goodIn_of _ (by decide +kernel)) ggX9_copying_X9_isHand
set_option maxRecDepth 20000 in
theorem ggX9_copying_X9_in : GoodIn wsX9_copying wsX9_in := goodIn_r _ [14] (by decide +kernel) (by decide +kernel)
set_option maxRecDepth 20000 in
theorem gX9_copying_X9_in : GoodIn wsX9_copying (va_wsS RX9 93 yX9_in wsX9_in) := goodIn_app (goodIn_of _ (by decide +kernel)) ggX9_copying_X9_in
set_option maxRecDepth 20000 in
theorem ggX9_copying_X9_beginWays : GoodIn wsX9_copying wsX9_beginWays := goodIn_r _ [18, 19, 20, 4, 46, 47, 48, 49, 50, 51, 52, 53, 54, 55, 56, 57, 58, 59, 60, 61, 62, 63, 64, 65, 66, 67, 68, 69, 70, 71, 72, 73, 74, 75, 76, 77, 78, 79, 80, 81, 82] (by decide +kernel) (by decide +kernel)
set_option maxRecDepth 20000 in
theorem gX9_copying_X9_beginWays : GoodIn wsX9_copying (wsV RX9 232 RX9 yX9_beginWays wsX9_beginWays) := goodIn_app (goodIn_of _ (by decide +kernel)) ggX9_copying_X9_beginWays
set_option maxRecDepth 20000 in
theorem ggX9_copying_X9_counts : GoodIn wsX9_copying wsX9_counts := goodIn_r _ [24, 25, 5, 46, 47, 48, 49, 50, 51, 52, 53, 54, 55, 56, 57, 58, 59, 60, 61, 62, 63, 64, 65, 66, 67, 68, 69, 70, 71, 72, 73, 74, 75, 76, 77, 78, 79, 80, 81, 82] (by decide +kernel) (by decide +kernel)
set_option maxRecDepth 20000 in
theorem gX9_copying_X9_counts : GoodIn wsX9_copying (wsV RX9 159 RX9 yX9_counts wsX9_counts) := goodIn_app (goodIn_of _ (by decide +kernel)) ggX9_copying_X9_counts
set_option maxRecDepth 20000 in
theorem ggX9_copying_X9_labelsOf : GoodIn wsX9_copying wsX9_labelsOf := goodIn_r _ [29, 30, 31, 46, 47, 48, 49, 50, 51, 52, 53, 54, 55, 56, 57, 58, 59, 60, 61, 62, 63, 64, 65, 66, 67, 68, 69, 70, 71, 72, 73, 74, 75, 76, 77, 78, 79, 80, 81, 82] (by decide +kernel) (by decide +kernel)
set_option maxRecDepth 20000 in
theorem gX9_copying_X9_labelsOf : GoodIn wsX9_copying (wsV RX9 138 RX9 yX9_labelsOf wsX9_labelsOf) := goodIn_app (goodIn_of _ (by decide +kernel)) ggX9_copying_X9_labelsOf
set_option maxRecDepth 20000 in
theorem ggX9_copying_X9_drawFrom : GoodIn wsX9_copying wsX9_drawFrom := goodIn_r _ [35, 4, 19, 20, 46, 47, 48, 49, 50, 51, 52, 53, 54, 55, 56, 57, 58, 59, 60, 61, 62, 63, 64, 65, 66, 67, 68, 69, 70, 71, 72, 73, 74, 75, 76, 77, 78, 79, 80, 81, 82] (by decide +kernel) (by decide +kernel)
set_option maxRecDepth 20000 in
theorem gX9_copying_X9_drawFrom : GoodIn wsX9_copying (wsV RX9 235 RX9 yX9_drawFrom wsX9_drawFrom) := goodIn_app (goodIn_of _ (by decide +kernel)) ggX9_copying_X9_drawFrom
set_option maxRecDepth 20000 in
theorem ggX9_copying_X9_oddsFrom : GoodIn wsX9_copying wsX9_oddsFrom := goodIn_r _ [39, 4, 19, 20, 40, 41, 9, 42, 43, 44, 45, 46, 47, 48, 49, 50, 51, 52, 53, 54, 55, 56, 57, 58, 59, 60, 61, 62, 63, 64, 65, 66, 67, 68, 69, 70, 71, 72, 73, 74, 75, 76, 77, 78, 79, 80, 81, 82] (by decide +kernel) (by decide +kernel)
set_option maxRecDepth 20000 in
theorem gX9_copying_X9_oddsFrom : GoodIn wsX9_copying (wsV RX9 239 RX9 yX9_oddsFrom wsX9_oddsFrom) := goodIn_app (goodIn_of _ (by decide +kernel)) ggX9_copying_X9_oddsFrom
set_option maxRecDepth 20000 in
theorem ggX9_misread_X9_in : GoodIn wsX9_misread wsX9_in := goodIn_r _ [9] (by decide +kernel) (by decide +kernel)
set_option maxRecDepth 20000 in
theorem gX9_misread_X9_in : GoodIn wsX9_misread (va_wsS RX9 93 yX9_in wsX9_in) := goodIn_app (goodIn_of _ (by decide +kernel)) ggX9_misread_X9_in
set_option maxRecDepth 20000 in
theorem ggX9_misread_X9_labelsOf : GoodIn wsX9_misread wsX9_labelsOf := goodIn_r _ [13, 14, 15, 21, 22, 23, 24, 25, 26, 27, 28, 29, 30, 31, 32, 33, 34, 35, 36, 37, 38, 39, 40, 41, 42, 43, 44, 45, 46, 47, 48, 49, 50, 51, 52, 53, 54, 55, 56, 57] (by decide +kernel) (by decide +kernel)
set_option maxRecDepth 20000 in
theorem gX9_misread_X9_labelsOf : GoodIn wsX9_misread (wsV RX9 138 RX9 yX9_labelsOf wsX9_labelsOf) := goodIn_app (goodIn_of _ (by decide +kernel)) ggX9_misread_X9_labelsOf
set_option maxRecDepth 20000 in
theorem ggX9_misread_X9_counts : GoodIn wsX9_misread wsX9_counts := goodIn_r _ [19, 20, 4, 21, 22, 23, 24, 25, 26, 27, 28, 29, 30, 31, 32, 33, 34, 35, 36, 37, 38, 39, 40, 41, 42, 43, 44, 45, 46, 47, 48, 49, 50, 51, 52, 53, 54, 55, 56, 57] (by decide +kernel) (by decide +kernel)
set_option maxRecDepth 20000 in
theorem gX9_misread_X9_counts : GoodIn wsX9_misread (wsV RX9 159 RX9 yX9_counts wsX9_counts) := goodIn_app (goodIn_of _ (by decide +kernel)) ggX9_misread_X9_counts
set_option maxRecDepth 20000 in
theorem ggX9_deal_X9_in : GoodIn wsX9_deal wsX9_in := goodIn_r _ [10] (by decide +kernel) (by decide +kernel)
set_option maxRecDepth 20000 in
theorem gX9_deal_X9_in : GoodIn wsX9_deal (va_wsS RX9 93 yX9_in wsX9_in) := goodIn_app (goodIn_of _ (by decide +kernel)) ggX9_deal_X9_in
set_option maxRecDepth 20000 in
theorem ggX9_better_X9_in : GoodIn wsX9_better wsX9_in := goodIn_r _ [9] (by decide +kernel) (by decide +kernel)
set_option maxRecDepth 20000 in
theorem gX9_better_X9_in : GoodIn wsX9_better (va_wsS RX9 93 yX9_in wsX9_in) := goodIn_app (goodIn_of _ (by decide +kernel)) ggX9_better_X9_in
set_option maxRecDepth 20000 in
theorem ggX9_better_X9_counts : GoodIn wsX9_better wsX9_counts := goodIn_r _ [13, 14, 15, 29, 30, 31, 32, 33, 34, 35, 36, 37, 38, 39, 40, 41, 42, 43, 44, 45, 46, 47, 48, 49, 50, 51, 52, 53, 54, 55, 56, 57, 58, 59, 60, 61, 62, 63, 64, 65] (by decide +kernel) (by decide +kernel)
set_option maxRecDepth 20000 in
theorem gX9_better_X9_counts : GoodIn wsX9_better (wsV RX9 159 RX9 yX9_counts wsX9_counts) := goodIn_app (goodIn_of _ (by decide +kernel)) ggX9_better_X9_counts
set_option maxRecDepth 20000 in
theorem ggX9_better_X9_isRight : GoodIn wsX9_better wsX9_isRight := goodIn_r _ [19, 15, 4, 29, 30, 31, 32, 33, 34, 35, 36, 37, 38, 39, 40, 41, 42, 43, 44, 45, 46, 47, 48, 49, 50, 51, 52, 53, 54, 55, 56, 57, 58, 59, 60, 61, 62, 63, 64, 65] (by decide +kernel) (by decide +kernel)
set_option maxRecDepth 20000 in
theorem gX9_better_X9_isRight : GoodIn wsX9_better (wsV RX9 201 RX9 yX9_isRight wsX9_isRight) := goodIn_app (goodIn_of _ (by decide +kernel)) ggX9_better_X9_isRight
set_option maxRecDepth 20000 in
theorem ggX9_better_X9_choose : GoodIn wsX9_better wsX9_choose := goodIn_r _ [22] (by decide +kernel) (by decide +kernel)
set_option maxRecDepth 20000 in
theorem gX9_better_X9_choose : GoodIn wsX9_better (va_wsS RX9 249 yX9_choose wsX9_choose) := goodIn_app (goodIn_of _ (by decide +kernel)) ggX9_better_X9_choose
set_option maxRecDepth 20000 in
theorem ggX9_better_X9_term : GoodIn wsX9_better wsX9_term := goodIn_r _ [25, 26, 27, 8, 28] (by decide +kernel) (by decide +kernel)
set_option maxRecDepth 20000 in
theorem gX9_better_X9_term : GoodIn wsX9_better (va_wsS RX9 224 yX9_term wsX9_term) := goodIn_app (goodIn_of _ (by decide +kernel)) ggX9_better_X9_term
set_option maxRecDepth 20000 in
theorem ggX9_laidEnd_X9_labelsOf : GoodIn wsX9_laidEnd wsX9_labelsOf := goodIn_r _ [6, 7, 8, 9, 10, 11, 12, 13, 14, 15, 16, 17, 18, 19, 20, 21, 22, 23, 24, 25, 26, 27, 28, 29, 30, 31, 32, 33, 34, 35, 36, 37, 38, 39, 40, 41, 42, 43, 44, 45] (by decide +kernel) (by decide +kernel)
set_option maxRecDepth 20000 in
theorem gX9_laidEnd_X9_labelsOf : GoodIn wsX9_laidEnd (wsV RX9 138 RX9 yX9_labelsOf wsX9_labelsOf) := goodIn_app (goodIn_of _ (by decide +kernel)) ggX9_laidEnd_X9_labelsOf
set_option maxRecDepth 20000 in
theorem ggX9_lean_X9_isHand : GoodIn wsX9_lean wsX9_isHand := goodIn_r _ [12, 13, 14, 15, 11, 16, 71, 72, 73, 74, 75, 76, 77, 78, 79, 80, 81, 82, 83, 84, 85, 86, 87, 88, 89, 90, 91, 92, 93, 94, 95, 96, 97, 98, 99, 100, 101, 102, 103, 104, 105, 106, 107] (by decide +kernel) (by decide +kernel)
set_option maxRecDepth 20000 in
theorem gX9_lean_X9_isHand : GoodIn wsX9_lean (wsV RX9 168 RX9 yX9_isHand wsX9_isHand) := goodIn_app (goodIn_of _ (by decide +kernel)) ggX9_lean_X9_isHand
set_option maxRecDepth 20000 in
theorem ggX9_lean_X9_joinAll : GoodIn wsX9_lean wsX9_joinAll := goodIn_r _ [20, 21, 22, 23, 24, 11, 25, 6, 13, 26, 2, 27, 28, 29, 30, 31, 32, 33, 34, 35, 5, 36, 37, 38, 39, 40, 41, 42, 43, 44, 45, 46, 47, 48, 49, 50, 51, 4, 52, 53, 54, 55, 56, 57, 58, 59, 60, 61, 62, 63, 64, 65, 66, 71, 72, 73, 74, 75, 76, 77, 78, 79, 80, 81, 82, 83, 84, 85, 86, 87, 88, 89, 90, 91, 92, 93, 94, 95, 96, 97, 98, 99, 100, 101, 102, 103, 104, 105, 106, 107] (by decide +kernel) (by decide +kernel)
set_option maxRecDepth 20000 in
theorem gX9_lean_X9_joinAll : GoodIn wsX9_lean (wsV RX9 195 RX9 yX9_joinAll wsX9_joinAll) := goodIn_app (goodIn_of _ (by decide +kernel)) ggX9_lean_X9_joinAll
set_option maxRecDepth 20000 in
theorem ggX9_lean_X9_laidEnd : GoodIn wsX9_lean wsX9_laidEnd := goodIn_r _ [70, 2, 36, 37, 38, 11, 39, 40, 41, 71, 72, 73, 74, 75, 76, 77, 78, 79, 80, 81, 82, 83, 84, 85, 86, 87, 88, 89, 90, 91, 92, 93, 94, 95, 96, 97, 98, 99, 100, 101, 102, 103, 104, 105, 106, 107] (by decide +kernel) (by decide +kernel)
set_option maxRecDepth 20000 in
theorem gX9_lean_X9_laidEnd : GoodIn wsX9_lean (wsV RX9 252 RX9 yX9_laidEnd wsX9_laidEnd) := goodIn_app (goodIn_of _ (by decide +kernel)) ggX9_lean_X9_laidEnd
set_option maxRecDepth 20000 in
theorem ggX9_coins_X9_isHand : GoodIn wsX9_coins wsX9_isHand := goodIn_r _ [6, 7, 8, 9, 5, 10, 35, 36, 37, 38, 39, 40, 41, 42, 43, 44, 45, 46, 47, 48, 49, 50, 51, 52, 53, 54, 55, 56, 57, 58, 59, 60, 61, 62, 63, 64, 65, 66, 67, 68, 69, 70, 71] (by decide +kernel) (by decide +kernel)
set_option maxRecDepth 20000 in
theorem gX9_coins_X9_isHand : GoodIn wsX9_coins (wsV RX9 168 RX9 yX9_isHand wsX9_isHand) := goodIn_app (goodIn_of _ (by decide +kernel)) ggX9_coins_X9_isHand
set_option maxRecDepth 20000 in
theorem ggX9_coins_X9_answersBy : GoodIn wsX9_coins wsX9_answersBy := goodIn_r _ [14, 15, 16, 17, 18, 5, 19, 20, 21, 35, 36, 37, 38, 39, 40, 41, 42, 43, 44, 45, 46, 47, 48, 49, 50, 51, 52, 53, 54, 55, 56, 57, 58, 59, 60, 61, 62, 63, 64, 65, 66, 67, 68, 69, 70, 71] (by decide +kernel) (by decide +kernel)
set_option maxRecDepth 20000 in
theorem gX9_coins_X9_answersBy : GoodIn wsX9_coins (wsV RX9 204 RX9 yX9_answersBy wsX9_answersBy) := goodIn_app (goodIn_of _ (by decide +kernel)) ggX9_coins_X9_answersBy
set_option maxRecDepth 20000 in
theorem ggX9_coins_X9_rightBy : GoodIn wsX9_coins wsX9_rightBy := goodIn_r _ [25, 15, 26, 16, 17, 18, 5, 19, 20, 21, 27, 28, 29, 30, 35, 36, 37, 38, 39, 40, 41, 42, 43, 44, 45, 46, 47, 48, 49, 50, 51, 52, 53, 54, 55, 56, 57, 58, 59, 60, 61, 62, 63, 64, 65, 66, 67, 68, 69, 70, 71] (by decide +kernel) (by decide +kernel)
set_option maxRecDepth 20000 in
theorem gX9_coins_X9_rightBy : GoodIn wsX9_coins (wsV RX9 210 RX9 yX9_rightBy wsX9_rightBy) := goodIn_app (goodIn_of _ (by decide +kernel)) ggX9_coins_X9_rightBy
set_option maxRecDepth 20000 in
theorem ggX9_coins_X9_knownBy : GoodIn wsX9_coins wsX9_knownBy := goodIn_r _ [34, 15, 26, 16, 17, 18, 5, 19, 20, 21, 35, 36, 37, 38, 39, 40, 41, 42, 43, 44, 45, 46, 47, 48, 49, 50, 51, 52, 53, 54, 55, 56, 57, 58, 59, 60, 61, 62, 63, 64, 65, 66, 67, 68, 69, 70, 71] (by decide +kernel) (by decide +kernel)
set_option maxRecDepth 20000 in
theorem gX9_coins_X9_knownBy : GoodIn wsX9_coins (wsV RX9 207 RX9 yX9_knownBy wsX9_knownBy) := goodIn_app (goodIn_of _ (by decide +kernel)) ggX9_coins_X9_knownBy
set_option maxRecDepth 20000 in
theorem ggX9_isPay_X9_in : GoodIn wsX9_isPay wsX9_in := goodIn_r _ [4] (by decide +kernel) (by decide +kernel)
set_option maxRecDepth 20000 in
theorem gX9_isPay_X9_in : GoodIn wsX9_isPay (va_wsS RX9 93 yX9_in wsX9_in) := goodIn_app (goodIn_of _ (by decide +kernel)) ggX9_isPay_X9_in
set_option maxRecDepth 20000 in
theorem ggX9_pays_X9_in : GoodIn wsX9_pays wsX9_in := goodIn_r _ [6] (by decide +kernel) (by decide +kernel)
set_option maxRecDepth 20000 in
theorem gX9_pays_X9_in : GoodIn wsX9_pays (va_wsS RX9 93 yX9_in wsX9_in) := goodIn_app (goodIn_of _ (by decide +kernel)) ggX9_pays_X9_in
set_option maxRecDepth 20000 in
theorem ggX9_pays_X9_isPay : GoodIn wsX9_pays wsX9_isPay := goodIn_r _ [9, 3, 4, 5, 6] (by decide +kernel) (by decide +kernel)
set_option maxRecDepth 20000 in
theorem gX9_pays_X9_isPay : GoodIn wsX9_pays (va_wsS RX9 255 yX9_isPay wsX9_isPay) := goodIn_app (goodIn_of _ (by decide +kernel)) ggX9_pays_X9_isPay
set_option maxRecDepth 20000 in
theorem ggX9_belief_X9_in : GoodIn wsX9_belief wsX9_in := goodIn_r _ [4] (by decide +kernel) (by decide +kernel)
set_option maxRecDepth 20000 in
theorem gX9_belief_X9_in : GoodIn wsX9_belief (va_wsS RX9 93 yX9_in wsX9_in) := goodIn_app (goodIn_of _ (by decide +kernel)) ggX9_belief_X9_in
set_option maxRecDepth 20000 in
theorem ggX9_belief_X9_brings : GoodIn wsX9_belief wsX9_brings := goodIn_r _ [8, 9, 10, 11, 12, 13, 14, 15, 16, 17, 18, 19, 20, 21, 22, 23, 24, 25, 26, 27, 28, 29, 30, 31, 32, 33, 34, 35, 36, 37, 38, 39, 40, 41, 42, 43, 44, 45, 46, 47] (by decide +kernel) (by decide +kernel)
set_option maxRecDepth 20000 in
theorem gX9_belief_X9_brings : GoodIn wsX9_belief (wsV RX9 258 RX9 yX9_brings wsX9_brings) := goodIn_app (goodIn_of _ (by decide +kernel)) ggX9_belief_X9_brings
set_option maxRecDepth 20000 in
theorem ggX9_plan_X9_in : GoodIn wsX9_plan wsX9_in := goodIn_r _ [5] (by decide +kernel) (by decide +kernel)
set_option maxRecDepth 20000 in
theorem gX9_plan_X9_in : GoodIn wsX9_plan (va_wsS RX9 93 yX9_in wsX9_in) := goodIn_app (goodIn_of _ (by decide +kernel)) ggX9_plan_X9_in
set_option maxRecDepth 20000 in
theorem ggX9_plan_X9_choose : GoodIn wsX9_plan wsX9_choose := goodIn_r _ [8] (by decide +kernel) (by decide +kernel)
set_option maxRecDepth 20000 in
theorem gX9_plan_X9_choose : GoodIn wsX9_plan (va_wsS RX9 249 yX9_choose wsX9_choose) := goodIn_app (goodIn_of _ (by decide +kernel)) ggX9_plan_X9_choose
set_option maxRecDepth 20000 in
theorem ggX9_told_X9_answersBy : GoodIn wsX9_told wsX9_answersBy := goodIn_r _ [9, 3, 10, 11, 12, 8, 13, 14, 15, 55, 56, 57, 58, 59, 60, 61, 62, 63, 64, 65, 66, 67, 68, 69, 70, 71, 72, 73, 74, 75, 76, 77, 78, 79, 80, 81, 82, 83, 84, 85, 86, 87, 88, 89, 90, 91] (by decide +kernel) (by decide +kernel)
set_option maxRecDepth 20000 in
theorem gX9_told_X9_answersBy : GoodIn wsX9_told (wsV RX9 204 RX9 yX9_answersBy wsX9_answersBy) := goodIn_app (goodIn_of _ (by decide +kernel)) ggX9_told_X9_answersBy
set_option maxRecDepth 20000 in
theorem ggX9_told_X9_isOpen : GoodIn wsX9_told wsX9_isOpen := goodIn_r _ [19, 2, 20, 21, 22, 23, 24, 25, 26, 8, 27, 3, 28, 29, 30, 31, 32, 33, 34, 35, 36, 37, 38, 39, 40, 41, 42, 43, 44, 45, 46, 47, 48, 49, 50, 51, 52, 53, 54, 55, 56, 57, 58, 59, 60, 61, 62, 63, 64, 65, 66, 67, 68, 69, 70, 71, 72, 73, 74, 75, 76, 77, 78, 79, 80, 81, 82, 83, 84, 85, 86, 87, 88, 89, 90, 91] (by decide +kernel) (by decide +kernel)
set_option maxRecDepth 20000 in
theorem gX9_told_X9_isOpen : GoodIn wsX9_told (wsV RX9 162 RX9 yX9_isOpen wsX9_isOpen) := goodIn_app (goodIn_of _ (by decide +kernel)) ggX9_told_X9_isOpen
