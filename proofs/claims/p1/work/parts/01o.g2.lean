set_option maxRecDepth 20000 in
theorem ggX5_doAllFindBy_X5_doesFind : GoodIn wsX5_doAllFindBy wsX5_doesFind := goodIn_r _ [7, 8, 1, 9, 10, 11, 12, 13, 14, 15, 16, 17, 18, 19, 20, 21, 22, 23, 24, 25, 26, 27, 28, 29, 30, 31, 32, 33, 34, 35, 36, 37, 38, 39, 40, 41, 42, 43, 44, 45, 46, 61, 62, 63, 64, 47, 48, 49, 50, 51, 52, 53, 54, 55, 56, 57, 58, 59, 60] (by decide +kernel) (by decide +kernel)
set_option maxRecDepth 20000 in
theorem gX5_doAllFindBy_X5_doesFind : GoodIn wsX5_doAllFindBy (wsV RX5 319 RX5 yX5_doesFind wsX5_doesFind) := goodIn_app (goodIn_of _ (by decide +kernel)) ggX5_doAllFindBy_X5_doesFind
set_option maxRecDepth 20000 in
theorem ggX5_mayTrialBe_X2_seek : GoodIn wsX5_mayTrialBe wsX2_seek := goodIn_r _ [16, 17, 18, 19, 20, 21, 22, 23, 24, 25, 15, 26, 27, 28, 29, 30, 31, 32, 33, 34, 35, 63, 64, 65, 66, 49, 50, 51, 52, 53, 54, 55, 56, 57, 58, 59, 60, 61, 62] (by decide +kernel) (by decide +kernel)
set_option maxRecDepth 20000 in
theorem gX5_mayTrialBe_X2_seek : GoodIn wsX5_mayTrialBe (wsV RX5 174 RX2 yX2_seek wsX2_seek) := goodIn_app (goodIn_of _ (by decide +kernel)) ggX5_mayTrialBe_X2_seek
set_option maxRecDepth 20000 in
theorem ggX6_init_X6_begin : GoodIn wsX6_init wsX6_begin := goodIn_r _ [28] (by decide +kernel) (by decide +kernel)
set_option maxRecDepth 20000 in
theorem gX6_init_X6_begin : GoodIn wsX6_init (va_wsS RX6 69 yX6_begin wsX6_begin) := goodIn_app (goodIn_of _ (by decide +kernel)) ggX6_init_X6_begin
set_option maxRecDepth 20000 in
theorem ggX6_isBox_X6_n : GoodIn wsX6_isBox wsX6_n := goodIn_r _ [5, 6, 10, 11, 12, 13, 14, 15, 16, 17, 18, 19, 20, 21, 22, 23, 24, 25, 26, 27, 28, 29, 30, 31, 32, 33, 34, 35, 36, 37, 38, 39] (by decide +kernel) (by decide +kernel)
set_option maxRecDepth 20000 in
theorem gX6_isBox_X6_n : GoodIn wsX6_isBox (wsV RX6 73 RX6 yX6_n wsX6_n) := goodIn_app (goodIn_of _ (by decide +kernel)) ggX6_isBox_X6_n
set_option maxRecDepth 20000 in
theorem ggX6_isBox_X6_in : GoodIn wsX6_isBox wsX6_in := goodIn_r _ [9] (by decide +kernel) (by decide +kernel)
set_option maxRecDepth 20000 in
theorem gX6_isBox_X6_in : GoodIn wsX6_isBox (va_wsS RX6 77 yX6_in wsX6_in) := goodIn_app (goodIn_of _ (by decide +kernel)) ggX6_isBox_X6_in
set_option maxRecDepth 20000 in
theorem ggX6_boxes_X6_in : GoodIn wsX6_boxes wsX6_in := goodIn_r _ [7] (by decide +kernel) (by decide +kernel)
set_option maxRecDepth 20000 in
theorem gX6_boxes_X6_in : GoodIn wsX6_boxes (va_wsS RX6 77 yX6_in wsX6_in) := goodIn_app (goodIn_of _ (by decide +kernel)) ggX6_boxes_X6_in
set_option maxRecDepth 20000 in
theorem ggX6_boxes_X6_bad : GoodIn wsX6_boxes wsX6_bad := goodIn_r _ [11, 12, 20, 21, 22, 23, 24, 25, 26, 27, 28, 29, 30, 31, 32, 33, 34, 35, 36, 37, 38, 39, 40, 41, 42, 43, 44, 45, 46, 47, 48, 49] (by decide +kernel) (by decide +kernel)
set_option maxRecDepth 20000 in
theorem gX6_boxes_X6_bad : GoodIn wsX6_boxes (wsV RX6 85 RX6 yX6_bad wsX6_bad) := goodIn_app (goodIn_of _ (by decide +kernel)) ggX6_boxes_X6_bad
set_option maxRecDepth 20000 in
theorem ggX6_boxes_X6_n : GoodIn wsX6_boxes wsX6_n := goodIn_r _ [16, 3, 20, 21, 22, 23, 24, 25, 26, 27, 28, 29, 30, 31, 32, 33, 34, 35, 36, 37, 38, 39, 40, 41, 42, 43, 44, 45, 46, 47, 48, 49] (by decide +kernel) (by decide +kernel)
set_option maxRecDepth 20000 in
theorem gX6_boxes_X6_n : GoodIn wsX6_boxes (wsV RX6 73 RX6 yX6_n wsX6_n) := goodIn_app (goodIn_of _ (by decide +kernel)) ggX6_boxes_X6_n
set_option maxRecDepth 20000 in
theorem ggX6_boxes_X6_begin : GoodIn wsX6_boxes wsX6_begin := goodIn_r _ [19] (by decide +kernel) (by decide +kernel)
set_option maxRecDepth 20000 in
theorem gX6_boxes_X6_begin : GoodIn wsX6_boxes (va_wsS RX6 69 yX6_begin wsX6_begin) := goodIn_app (goodIn_of _ (by decide +kernel)) ggX6_boxes_X6_begin
set_option maxRecDepth 20000 in
theorem ggX6_put_X6_n : GoodIn wsX6_put wsX6_n := goodIn_r _ [7, 2, 16, 17, 18, 19, 20, 21, 22, 23, 24, 25, 26, 27, 28, 29, 30, 31, 32, 33, 34, 35, 36, 37, 38, 39, 40, 41, 42, 43, 44, 45] (by decide +kernel) (by decide +kernel)
set_option maxRecDepth 20000 in
theorem gX6_put_X6_n : GoodIn wsX6_put (wsV RX6 73 RX6 yX6_n wsX6_n) := goodIn_app (goodIn_of _ (by decide +kernel)) ggX6_put_X6_n
set_option maxRecDepth 20000 in
theorem ggX6_put_X6_in : GoodIn wsX6_put wsX6_in := goodIn_r _ [10] (by decide +kernel) (by decide +kernel)
set_option maxRecDepth 20000 in
theorem gX6_put_X6_in : GoodIn wsX6_put (va_wsS RX6 77 yX6_in wsX6_in) := goodIn_app (goodIn_of _ (by decide +kernel)) ggX6_put_X6_in
set_option maxRecDepth 20000 in
theorem ggX6_put_X6_bad : GoodIn wsX6_put wsX6_bad := goodIn_r _ [14, 15, 16, 17, 18, 19, 20, 21, 22, 23, 24, 25, 26, 27, 28, 29, 30, 31, 32, 33, 34, 35, 36, 37, 38, 39, 40, 41, 42, 43, 44, 45] (by decide +kernel) (by decide +kernel)
set_option maxRecDepth 20000 in
theorem gX6_put_X6_bad : GoodIn wsX6_put (wsV RX6 85 RX6 yX6_bad wsX6_bad) := goodIn_app (goodIn_of _ (by decide +kernel)) ggX6_put_X6_bad
set_option maxRecDepth 20000 in
theorem ggX6_rule_X6_isBox : GoodIn wsX6_rule wsX6_isBox := goodIn_r _ [7, 8, 9, 10, 6, 11, 2, 12, 13, 14, 20, 21, 22, 23, 24, 25, 26, 27, 28, 29, 30, 31, 32, 33, 34, 35, 36, 37, 38, 39, 40, 41, 42, 43, 44, 45, 46, 47, 48, 49] (by decide +kernel) (by decide +kernel)
set_option maxRecDepth 20000 in
theorem gX6_rule_X6_isBox : GoodIn wsX6_rule (wsV RX6 91 RX6 yX6_isBox wsX6_isBox) := goodIn_app (goodIn_of _ (by decide +kernel)) ggX6_rule_X6_isBox
set_option maxRecDepth 20000 in
theorem ggX6_rule_X6_in : GoodIn wsX6_rule wsX6_in := goodIn_r _ [14] (by decide +kernel) (by decide +kernel)
set_option maxRecDepth 20000 in
theorem gX6_rule_X6_in : GoodIn wsX6_rule (va_wsS RX6 77 yX6_in wsX6_in) := goodIn_app (goodIn_of _ (by decide +kernel)) ggX6_rule_X6_in
set_option maxRecDepth 20000 in
theorem ggX6_rule_X6_bad : GoodIn wsX6_rule wsX6_bad := goodIn_r _ [18, 19, 20, 21, 22, 23, 24, 25, 26, 27, 28, 29, 30, 31, 32, 33, 34, 35, 36, 37, 38, 39, 40, 41, 42, 43, 44, 45, 46, 47, 48, 49] (by decide +kernel) (by decide +kernel)
set_option maxRecDepth 20000 in
theorem gX6_rule_X6_bad : GoodIn wsX6_rule (wsV RX6 85 RX6 yX6_bad wsX6_bad) := goodIn_app (goodIn_of _ (by decide +kernel)) ggX6_rule_X6_bad
set_option maxRecDepth 20000 in
theorem ggX6_takeNow_X6_n : GoodIn wsX6_takeNow wsX6_n := goodIn_r _ [7, 2, 8, 9, 10, 11, 12, 13, 14, 15, 16, 17, 18, 19, 20, 21, 22, 23, 24, 25, 26, 27, 28, 29, 30, 31, 32, 33, 34, 35, 36, 37] (by decide +kernel) (by decide +kernel)
set_option maxRecDepth 20000 in
theorem gX6_takeNow_X6_n : GoodIn wsX6_takeNow (wsV RX6 73 RX6 yX6_n wsX6_n) := goodIn_app (goodIn_of _ (by decide +kernel)) ggX6_takeNow_X6_n
set_option maxRecDepth 20000 in
theorem ggX6_ways_X6_n : GoodIn wsX6_ways wsX6_n := goodIn_r _ [5, 6, 10, 11, 12, 13, 14, 15, 16, 17, 18, 19, 20, 21, 22, 23, 24, 25, 26, 27, 28, 29, 30, 31, 32, 33, 34, 35, 36, 37, 38, 39] (by decide +kernel) (by decide +kernel)
set_option maxRecDepth 20000 in
theorem gX6_ways_X6_n : GoodIn wsX6_ways (wsV RX6 73 RX6 yX6_n wsX6_n) := goodIn_app (goodIn_of _ (by decide +kernel)) ggX6_ways_X6_n
set_option maxRecDepth 20000 in
theorem ggX6_ways_X6_factorial : GoodIn wsX6_ways wsX6_factorial := goodIn_r _ [9] (by decide +kernel) (by decide +kernel)
set_option maxRecDepth 20000 in
theorem gX6_ways_X6_factorial : GoodIn wsX6_ways (va_wsS RX6 97 yX6_factorial wsX6_factorial) := goodIn_app (goodIn_of _ (by decide +kernel)) ggX6_ways_X6_factorial
set_option maxRecDepth 20000 in
theorem ggX6_rankOf_X6_n : GoodIn wsX6_rankOf wsX6_n := goodIn_r _ [6, 7, 11, 12, 13, 14, 15, 16, 17, 18, 19, 20, 21, 22, 23, 24, 25, 26, 27, 28, 29, 30, 31, 32, 33, 34, 35, 36, 37, 38, 39, 40] (by decide +kernel) (by decide +kernel)
set_option maxRecDepth 20000 in
theorem gX6_rankOf_X6_n : GoodIn wsX6_rankOf (wsV RX6 73 RX6 yX6_n wsX6_n) := goodIn_app (goodIn_of _ (by decide +kernel)) ggX6_rankOf_X6_n
set_option maxRecDepth 20000 in
theorem ggX6_rankOf_X6_factorial : GoodIn wsX6_rankOf wsX6_factorial := goodIn_r _ [10] (by decide +kernel) (by decide +kernel)
set_option maxRecDepth 20000 in
theorem gX6_rankOf_X6_factorial : GoodIn wsX6_rankOf (va_wsS RX6 97 yX6_factorial wsX6_factorial) := goodIn_app (goodIn_of _ (by decide +kernel)) ggX6_rankOf_X6_factorial
set_option maxRecDepth 20000 in
theorem ggX6_takeRank_X6_n : GoodIn wsX6_takeRank wsX6_n := goodIn_r _ [6, 7, 11, 12, 13, 14, 15, 16, 17, 18, 19, 20, 21, 22, 23, 24, 25, 26, 27, 28, 29, 30, 31, 32, 33, 34, 35, 36, 37, 38, 39, 40] (by decide +kernel) (by decide +kernel)
set_option maxRecDepth 20000 in
theorem gX6_takeRank_X6_n : GoodIn wsX6_takeRank (wsV RX6 73 RX6 yX6_n wsX6_n) := goodIn_app (goodIn_of _ (by decide +kernel)) ggX6_takeRank_X6_n
set_option maxRecDepth 20000 in
theorem ggX6_takeRank_X6_factorial : GoodIn wsX6_takeRank wsX6_factorial := goodIn_r _ [10] (by decide +kernel) (by decide +kernel)
set_option maxRecDepth 20000 in
theorem gX6_takeRank_X6_factorial : GoodIn wsX6_takeRank (va_wsS RX6 97 yX6_factorial wsX6_factorial) := goodIn_app (goodIn_of _ (by decide +kernel)) ggX6_takeRank_X6_factorial
set_option maxRecDepth 20000 in
theorem ggX6_rankNow_X6_takeNow : GoodIn wsX6_rankNow wsX6_takeNow := goodIn_r _ [5, 6, 7, 8, 9, 10, 4, 11, 19, 20, 21, 22, 23, 24, 25, 26, 27, 28, 29, 30, 31, 32, 33, 34, 35, 36, 37, 38, 39, 40, 41, 42, 43, 44, 45, 46, 47, 48] (by decide +kernel) (by decide +kernel)
set_option maxRecDepth 20000 in
theorem gX6_rankNow_X6_takeNow : GoodIn wsX6_rankNow (wsV RX6 100 RX6 yX6_takeNow wsX6_takeNow) := goodIn_app (goodIn_of _ (by decide +kernel)) ggX6_rankNow_X6_takeNow
set_option maxRecDepth 20000 in
theorem ggX6_rankNow_X6_rankOf : GoodIn wsX6_rankNow wsX6_rankOf := goodIn_r _ [15, 6, 8, 9, 10, 4, 11, 7, 16, 17, 18, 19, 20, 21, 22, 23, 24, 25, 26, 27, 28, 29, 30, 31, 32, 33, 34, 35, 36, 37, 38, 39, 40, 41, 42, 43, 44, 45, 46, 47, 48] (by decide +kernel) (by decide +kernel)
set_option maxRecDepth 20000 in
theorem gX6_rankNow_X6_rankOf : GoodIn wsX6_rankNow (wsV RX6 103 RX6 yX6_rankOf wsX6_rankOf) := goodIn_app (goodIn_of _ (by decide +kernel)) ggX6_rankNow_X6_rankOf
set_option maxRecDepth 20000 in
theorem ggX6_putWay_X6_n : GoodIn wsX6_putWay wsX6_n := goodIn_r _ [8, 1, 9, 10, 11, 12, 13, 14, 15, 16, 17, 18, 19, 20, 21, 22, 23, 24, 25, 26, 27, 28, 29, 30, 31, 32, 33, 34, 35, 36, 37, 38] (by decide +kernel) (by decide +kernel)
set_option maxRecDepth 20000 in
theorem gX6_putWay_X6_n : GoodIn wsX6_putWay (wsV RX6 73 RX6 yX6_n wsX6_n) := goodIn_app (goodIn_of _ (by decide +kernel)) ggX6_putWay_X6_n
set_option maxRecDepth 20000 in
theorem ggX6_swap_X6_isBox : GoodIn wsX6_swap wsX6_isBox := goodIn_r _ [6, 7, 8, 9, 5, 10, 11, 12, 13, 14, 44, 45, 46, 47, 48, 49, 50, 51, 52, 53, 54, 55, 56, 57, 58, 59, 60, 61, 62, 63, 64, 65, 66, 67, 68, 69, 70, 71, 72, 73] (by decide +kernel) (by decide +kernel)
set_option maxRecDepth 20000 in
theorem gX6_swap_X6_isBox : GoodIn wsX6_swap (wsV RX6 91 RX6 yX6_isBox wsX6_isBox) := goodIn_app (goodIn_of _ (by decide +kernel)) ggX6_swap_X6_isBox
set_option maxRecDepth 20000 in
theorem ggX6_swap_X6_bad : GoodIn wsX6_swap wsX6_bad := goodIn_r _ [18, 19, 44, 45, 46, 47, 48, 49, 50, 51, 52, 53, 54, 55, 56, 57, 58, 59, 60, 61, 62, 63, 64, 65, 66, 67, 68, 69, 70, 71, 72, 73] (by decide +kernel) (by decide +kernel)
set_option maxRecDepth 20000 in
theorem gX6_swap_X6_bad : GoodIn wsX6_swap (wsV RX6 85 RX6 yX6_bad wsX6_bad) := goodIn_app (goodIn_of _ (by decide +kernel)) ggX6_swap_X6_bad
set_option maxRecDepth 20000 in
theorem ggX6_swap_X6_rankNow : GoodIn wsX6_swap wsX6_rankNow := goodIn_r _ [23, 24, 25, 26, 5, 27, 28, 11, 7, 8, 9, 10, 29, 30, 31, 32, 33, 34, 35, 44, 45, 46, 47, 48, 49, 50, 51, 52, 53, 54, 55, 56, 57, 58, 59, 60, 61, 62, 63, 64, 65, 66, 67, 68, 69, 70, 71, 72, 73] (by decide +kernel) (by decide +kernel)
set_option maxRecDepth 20000 in
theorem gX6_swap_X6_rankNow : GoodIn wsX6_swap (wsV RX6 110 RX6 yX6_rankNow wsX6_rankNow) := goodIn_app (goodIn_of _ (by decide +kernel)) ggX6_swap_X6_rankNow
set_option maxRecDepth 20000 in
theorem ggX6_swap_X6_swapHand : GoodIn wsX6_swap wsX6_swapHand := goodIn_r _ [39, 28, 44, 45, 46, 47, 48, 49, 50, 51, 52, 53, 54, 55, 56, 57, 58, 59, 60, 61, 62, 63, 64, 65, 66, 67, 68, 69, 70, 71, 72, 73] (by decide +kernel) (by decide +kernel)
set_option maxRecDepth 20000 in
theorem gX6_swap_X6_swapHand : GoodIn wsX6_swap (wsV RX6 113 RX6 yX6_swapHand wsX6_swapHand) := goodIn_app (goodIn_of _ (by decide +kernel)) ggX6_swap_X6_swapHand
set_option maxRecDepth 20000 in
theorem ggX6_swap_X6_putWay : GoodIn wsX6_swap wsX6_putWay := goodIn_r _ [43, 11, 1, 28, 7, 8, 9, 5, 10, 44, 45, 46, 47, 48, 49, 50, 51, 52, 53, 54, 55, 56, 57, 58, 59, 60, 61, 62, 63, 64, 65, 66, 67, 68, 69, 70, 71, 72, 73] (by decide +kernel) (by decide +kernel)
set_option maxRecDepth 20000 in
theorem gX6_swap_X6_putWay : GoodIn wsX6_swap (wsV RX6 117 RX6 yX6_putWay wsX6_putWay) := goodIn_app (goodIn_of _ (by decide +kernel)) ggX6_swap_X6_putWay
set_option maxRecDepth 20000 in
theorem ggX6_lay_X6_ways : GoodIn wsX6_lay wsX6_ways := goodIn_r _ [6, 7, 8, 9, 5, 10, 11, 12, 13, 14, 44, 45, 46, 47, 48, 49, 50, 51, 52, 53, 54, 55, 56, 57, 58, 59, 60, 61, 62, 63, 64, 65, 66, 67, 68, 69, 70, 71, 72, 73] (by decide +kernel) (by decide +kernel)
set_option maxRecDepth 20000 in
theorem gX6_lay_X6_ways : GoodIn wsX6_lay (wsV RX6 120 RX6 yX6_ways wsX6_ways) := goodIn_app (goodIn_of _ (by decide +kernel)) ggX6_lay_X6_ways
set_option maxRecDepth 20000 in
theorem ggX6_lay_X6_in : GoodIn wsX6_lay wsX6_in := goodIn_r _ [17] (by decide +kernel) (by decide +kernel)
set_option maxRecDepth 20000 in
theorem gX6_lay_X6_in : GoodIn wsX6_lay (va_wsS RX6 77 yX6_in wsX6_in) := goodIn_app (goodIn_of _ (by decide +kernel)) ggX6_lay_X6_in
set_option maxRecDepth 20000 in
theorem ggX6_lay_X6_bad : GoodIn wsX6_lay wsX6_bad := goodIn_r _ [21, 22, 44, 45, 46, 47, 48, 49, 50, 51, 52, 53, 54, 55, 56, 57, 58, 59, 60, 61, 62, 63, 64, 65, 66, 67, 68, 69, 70, 71, 72, 73] (by decide +kernel) (by decide +kernel)
set_option maxRecDepth 20000 in
theorem gX6_lay_X6_bad : GoodIn wsX6_lay (wsV RX6 85 RX6 yX6_bad wsX6_bad) := goodIn_app (goodIn_of _ (by decide +kernel)) ggX6_lay_X6_bad
set_option maxRecDepth 20000 in
theorem ggX6_lay_X6_rankNow : GoodIn wsX6_lay wsX6_rankNow := goodIn_r _ [26, 27, 28, 29, 5, 30, 31, 11, 7, 8, 9, 10, 32, 33, 34, 35, 12, 13, 14, 44, 45, 46, 47, 48, 49, 50, 51, 52, 53, 54, 55, 56, 57, 58, 59, 60, 61, 62, 63, 64, 65, 66, 67, 68, 69, 70, 71, 72, 73] (by decide +kernel) (by decide +kernel)
set_option maxRecDepth 20000 in
theorem gX6_lay_X6_rankNow : GoodIn wsX6_lay (wsV RX6 110 RX6 yX6_rankNow wsX6_rankNow) := goodIn_app (goodIn_of _ (by decide +kernel)) ggX6_lay_X6_rankNow
set_option maxRecDepth 20000 in
theorem ggX6_lay_X6_takeRank : GoodIn wsX6_lay wsX6_takeRank := goodIn_r _ [39, 31, 7, 8, 9, 5, 10, 11, 12, 13, 14, 44, 45, 46, 47, 48, 49, 50, 51, 52, 53, 54, 55, 56, 57, 58, 59, 60, 61, 62, 63, 64, 65, 66, 67, 68, 69, 70, 71, 72, 73] (by decide +kernel) (by decide +kernel)
set_option maxRecDepth 20000 in
theorem gX6_lay_X6_takeRank : GoodIn wsX6_lay (wsV RX6 123 RX6 yX6_takeRank wsX6_takeRank) := goodIn_app (goodIn_of _ (by decide +kernel)) ggX6_lay_X6_takeRank
set_option maxRecDepth 20000 in
theorem ggX6_lay_X6_putWay : GoodIn wsX6_lay wsX6_putWay := goodIn_r _ [43, 11, 1, 31, 7, 8, 9, 5, 10, 44, 45, 46, 47, 48, 49, 50, 51, 52, 53, 54, 55, 56, 57, 58, 59, 60, 61, 62, 63, 64, 65, 66, 67, 68, 69, 70, 71, 72, 73] (by decide +kernel) (by decide +kernel)
set_option maxRecDepth 20000 in
theorem gX6_lay_X6_putWay : GoodIn wsX6_lay (wsV RX6 117 RX6 yX6_putWay wsX6_putWay) := goodIn_app (goodIn_of _ (by decide +kernel)) ggX6_lay_X6_putWay
set_option maxRecDepth 20000 in
theorem ggX6_undo_X6_no : GoodIn wsX6_undo wsX6_no := goodIn_r _ [7, 8, 20, 21, 22, 23, 24, 25, 26, 27, 28, 29, 30, 31, 32, 33, 34, 35, 36, 37, 38, 39, 40, 41, 42, 43, 44, 45, 46, 47, 48, 49] (by decide +kernel) (by decide +kernel)
set_option maxRecDepth 20000 in
theorem gX6_undo_X6_no : GoodIn wsX6_undo (wsV RX6 127 RX6 yX6_no wsX6_no) := goodIn_app (goodIn_of _ (by decide +kernel)) ggX6_undo_X6_no
set_option maxRecDepth 20000 in
theorem ggX6_undo_X6_takeRank : GoodIn wsX6_undo wsX6_takeRank := goodIn_r _ [12, 2, 13, 14, 15, 6, 16, 1, 17, 18, 19, 20, 21, 22, 23, 24, 25, 26, 27, 28, 29, 30, 31, 32, 33, 34, 35, 36, 37, 38, 39, 40, 41, 42, 43, 44, 45, 46, 47, 48, 49] (by decide +kernel) (by decide +kernel)
set_option maxRecDepth 20000 in
theorem gX6_undo_X6_takeRank : GoodIn wsX6_undo (wsV RX6 123 RX6 yX6_takeRank wsX6_takeRank) := goodIn_app (goodIn_of _ (by decide +kernel)) ggX6_undo_X6_takeRank
set_option maxRecDepth 20000 in
theorem ggX6_undo_X6_n : GoodIn wsX6_undo wsX6_n := goodIn_r _ [16, 1, 20, 21, 22, 23, 24, 25, 26, 27, 28, 29, 30, 31, 32, 33, 34, 35, 36, 37, 38, 39, 40, 41, 42, 43, 44, 45, 46, 47, 48, 49] (by decide +kernel) (by decide +kernel)
set_option maxRecDepth 20000 in
theorem gX6_undo_X6_n : GoodIn wsX6_undo (wsV RX6 73 RX6 yX6_n wsX6_n) := goodIn_app (goodIn_of _ (by decide +kernel)) ggX6_undo_X6_n
set_option maxRecDepth 20000 in
theorem ggX6_know_X6_isBox : GoodIn wsX6_know wsX6_isBox := goodIn_r _ [6, 7, 8, 9, 5, 10, 1, 11, 12, 13, 26, 27, 28, 29, 30, 31, 32, 33, 34, 35, 36, 37, 38, 39, 40, 41, 42, 43, 44, 45, 46, 47, 48, 49, 50, 51, 52, 53, 54, 55] (by decide +kernel) (by decide +kernel)
set_option maxRecDepth 20000 in
theorem gX6_know_X6_isBox : GoodIn wsX6_know (wsV RX6 91 RX6 yX6_isBox wsX6_isBox) := goodIn_app (goodIn_of _ (by decide +kernel)) ggX6_know_X6_isBox
set_option maxRecDepth 20000 in
theorem ggX6_know_X6_bad : GoodIn wsX6_know wsX6_bad := goodIn_r _ [17, 18, 26, 27, 28, 29, 30, 31, 32, 33, 34, 35, 36, 37, 38, 39, 40, 41, 42, 43, 44, 45, 46, 47, 48, 49, 50, 51, 52, 53, 54, 55] (by decide +kernel) (by decide +kernel)
set_option maxRecDepth 20000 in
theorem gX6_know_X6_bad : GoodIn wsX6_know (wsV RX6 85 RX6 yX6_bad wsX6_bad) := goodIn_app (goodIn_of _ (by decide +kernel)) ggX6_know_X6_bad
set_option maxRecDepth 20000 in
theorem ggX6_know_X6_isKnown : GoodIn wsX6_know wsX6_isKnown := goodIn_r _ [21] (by decide +kernel) (by decide +kernel)
set_option maxRecDepth 20000 in
theorem gX6_know_X6_isKnown : GoodIn wsX6_know (va_wsS RX6 130 yX6_isKnown wsX6_isKnown) := goodIn_app (goodIn_of _ (by decide +kernel)) ggX6_know_X6_isKnown
set_option maxRecDepth 20000 in
theorem ggX6_know_X6_no : GoodIn wsX6_know wsX6_no := goodIn_r _ [25, 18, 26, 27, 28, 29, 30, 31, 32, 33, 34, 35, 36, 37, 38, 39, 40, 41, 42, 43, 44, 45, 46, 47, 48, 49, 50, 51, 52, 53, 54, 55] (by decide +kernel) (by decide +kernel)
set_option maxRecDepth 20000 in
theorem gX6_know_X6_no : GoodIn wsX6_know (wsV RX6 127 RX6 yX6_no wsX6_no) := goodIn_app (goodIn_of _ (by decide +kernel)) ggX6_know_X6_no
set_option maxRecDepth 20000 in
theorem ggX6_report_X6_isBox : GoodIn wsX6_report wsX6_isBox := goodIn_r _ [6, 7, 8, 9, 5, 10, 1, 11, 12, 13, 26, 27, 28, 29, 30, 31, 32, 33, 34, 35, 36, 37, 38, 39, 40, 41, 42, 43, 44, 45, 46, 47, 48, 49, 50, 51, 52, 53, 54, 55] (by decide +kernel) (by decide +kernel)
set_option maxRecDepth 20000 in
theorem gX6_report_X6_isBox : GoodIn wsX6_report (wsV RX6 91 RX6 yX6_isBox wsX6_isBox) := goodIn_app (goodIn_of _ (by decide +kernel)) ggX6_report_X6_isBox
set_option maxRecDepth 20000 in
theorem ggX6_report_X6_n : GoodIn wsX6_report wsX6_n := goodIn_r _ [10, 1, 26, 27, 28, 29, 30, 31, 32, 33, 34, 35, 36, 37, 38, 39, 40, 41, 42, 43, 44, 45, 46, 47, 48, 49, 50, 51, 52, 53, 54, 55] (by decide +kernel) (by decide +kernel)
set_option maxRecDepth 20000 in
theorem gX6_report_X6_n : GoodIn wsX6_report (wsV RX6 73 RX6 yX6_n wsX6_n) := goodIn_app (goodIn_of _ (by decide +kernel)) ggX6_report_X6_n
set_option maxRecDepth 20000 in
theorem ggX6_report_X6_in : GoodIn wsX6_report wsX6_in := goodIn_r _ [13] (by decide +kernel) (by decide +kernel)
set_option maxRecDepth 20000 in
theorem gX6_report_X6_in : GoodIn wsX6_report (va_wsS RX6 77 yX6_in wsX6_in) := goodIn_app (goodIn_of _ (by decide +kernel)) ggX6_report_X6_in
set_option maxRecDepth 20000 in
theorem ggX6_report_X6_bad : GoodIn wsX6_report wsX6_bad := goodIn_r _ [17, 18, 26, 27, 28, 29, 30, 31, 32, 33, 34, 35, 36, 37, 38, 39, 40, 41, 42, 43, 44, 45, 46, 47, 48, 49, 50, 51, 52, 53, 54, 55] (by decide +kernel) (by decide +kernel)
set_option maxRecDepth 20000 in
theorem gX6_report_X6_bad : GoodIn wsX6_report (wsV RX6 85 RX6 yX6_bad wsX6_bad) := goodIn_app (goodIn_of _ (by decide +kernel)) ggX6_report_X6_bad
set_option maxRecDepth 20000 in
theorem ggX6_report_X6_full : GoodIn wsX6_report wsX6_full := goodIn_r _ [22, 18, 26, 27, 28, 29, 30, 31, 32, 33, 34, 35, 36, 37, 38, 39, 40, 41, 42, 43, 44, 45, 46, 47, 48, 49, 50, 51, 52, 53, 54, 55] (by decide +kernel) (by decide +kernel)
set_option maxRecDepth 20000 in
theorem gX6_report_X6_full : GoodIn wsX6_report (wsV RX6 134 RX6 yX6_full wsX6_full) := goodIn_app (goodIn_of _ (by decide +kernel)) ggX6_report_X6_full
set_option maxRecDepth 20000 in
theorem ggX6_report_X6_layReport : GoodIn wsX6_report wsX6_layReport := goodIn_r _ [25] (by decide +kernel) (by decide +kernel)
set_option maxRecDepth 20000 in
theorem gX6_report_X6_layReport : GoodIn wsX6_report (va_wsS RX6 137 yX6_layReport wsX6_layReport) := goodIn_app (goodIn_of _ (by decide +kernel)) ggX6_report_X6_layReport
set_option maxRecDepth 20000 in
theorem ggX6_known_X6_n : GoodIn wsX6_known wsX6_n := goodIn_r _ [6, 1, 7, 8, 9, 10, 11, 12, 13, 14, 15, 16, 17, 18, 19, 20, 21, 22, 23, 24, 25, 26, 27, 28, 29, 30, 31, 32, 33, 34, 35, 36] (by decide +kernel) (by decide +kernel)
set_option maxRecDepth 20000 in
theorem gX6_known_X6_n : GoodIn wsX6_known (wsV RX6 73 RX6 yX6_n wsX6_n) := goodIn_app (goodIn_of _ (by decide +kernel)) ggX6_known_X6_n
set_option maxRecDepth 20000 in
theorem ggX6_forget_X6_in : GoodIn wsX6_forget wsX6_in := goodIn_r _ [5] (by decide +kernel) (by decide +kernel)
set_option maxRecDepth 20000 in
theorem gX6_forget_X6_in : GoodIn wsX6_forget (va_wsS RX6 77 yX6_in wsX6_in) := goodIn_app (goodIn_of _ (by decide +kernel)) ggX6_forget_X6_in
set_option maxRecDepth 20000 in
theorem ggX6_forget_X6_bad : GoodIn wsX6_forget wsX6_bad := goodIn_r _ [9, 10, 19, 20, 21, 22, 23, 24, 25, 26, 27, 28, 29, 30, 31, 32, 33, 34, 35, 36, 37, 38, 39, 40, 41, 42, 43, 44, 45, 46, 47, 48] (by decide +kernel) (by decide +kernel)
set_option maxRecDepth 20000 in
theorem gX6_forget_X6_bad : GoodIn wsX6_forget (wsV RX6 85 RX6 yX6_bad wsX6_bad) := goodIn_app (goodIn_of _ (by decide +kernel)) ggX6_forget_X6_bad
set_option maxRecDepth 20000 in
theorem ggX6_forget_X6_known : GoodIn wsX6_forget wsX6_known := goodIn_r _ [14, 1, 15, 16, 17, 4, 18, 19, 20, 21, 22, 23, 24, 25, 26, 27, 28, 29, 30, 31, 32, 33, 34, 35, 36, 37, 38, 39, 40, 41, 42, 43, 44, 45, 46, 47, 48] (by decide +kernel) (by decide +kernel)
set_option maxRecDepth 20000 in
theorem gX6_forget_X6_known : GoodIn wsX6_forget (wsV RX6 141 RX6 yX6_known wsX6_known) := goodIn_app (goodIn_of _ (by decide +kernel)) ggX6_forget_X6_known
set_option maxRecDepth 20000 in
theorem ggX6_free_X6_n : GoodIn wsX6_free wsX6_n := goodIn_r _ [5, 6, 7, 8, 9, 10, 11, 12, 13, 14, 15, 16, 17, 18, 19, 20, 21, 22, 23, 24, 25, 26, 27, 28, 29, 30, 31, 32, 33, 34, 35, 36] (by decide +kernel) (by decide +kernel)
set_option maxRecDepth 20000 in
theorem gX6_free_X6_n : GoodIn wsX6_free (wsV RX6 73 RX6 yX6_n wsX6_n) := goodIn_app (goodIn_of _ (by decide +kernel)) ggX6_free_X6_n
set_option maxRecDepth 20000 in
theorem ggX6_evenBox_X6_n : GoodIn wsX6_evenBox wsX6_n := goodIn_r _ [5, 6, 7, 8, 9, 10, 11, 12, 13, 14, 15, 16, 17, 18, 19, 20, 21, 22, 23, 24, 25, 26, 27, 28, 29, 30, 31, 32, 33, 34, 35, 36] (by decide +kernel) (by decide +kernel)
set_option maxRecDepth 20000 in
theorem gX6_evenBox_X6_n : GoodIn wsX6_evenBox (wsV RX6 73 RX6 yX6_n wsX6_n) := goodIn_app (goodIn_of _ (by decide +kernel)) ggX6_evenBox_X6_n
set_option maxRecDepth 20000 in
theorem ggX6_boxOf_X6_n : GoodIn wsX6_boxOf wsX6_n := goodIn_r _ [8, 3, 17, 18, 19, 20, 21, 22, 23, 24, 25, 26, 27, 28, 29, 30, 31, 32, 33, 34, 35, 36, 37, 38, 39, 40, 41, 42, 43, 44, 45, 46] (by decide +kernel) (by decide +kernel)
set_option maxRecDepth 20000 in
theorem gX6_boxOf_X6_n : GoodIn wsX6_boxOf (wsV RX6 73 RX6 yX6_n wsX6_n) := goodIn_app (goodIn_of _ (by decide +kernel)) ggX6_boxOf_X6_n
set_option maxRecDepth 20000 in
theorem ggX6_boxOf_X6_evenBox : GoodIn wsX6_boxOf wsX6_evenBox := goodIn_r _ [12, 4, 5, 6, 7, 8, 3, 17, 18, 19, 20, 21, 22, 23, 24, 25, 26, 27, 28, 29, 30, 31, 32, 33, 34, 35, 36, 37, 38, 39, 40, 41, 42, 43, 44, 45, 46] (by decide +kernel) (by decide +kernel)
set_option maxRecDepth 20000 in
theorem gX6_boxOf_X6_evenBox : GoodIn wsX6_boxOf (wsV RX6 144 RX6 yX6_evenBox wsX6_evenBox) := goodIn_app (goodIn_of _ (by decide +kernel)) ggX6_boxOf_X6_evenBox
set_option maxRecDepth 20000 in
theorem ggX6_boxOf_X6_free : GoodIn wsX6_boxOf wsX6_free := goodIn_r _ [16, 4, 5, 6, 7, 8, 3, 17, 18, 19, 20, 21, 22, 23, 24, 25, 26, 27, 28, 29, 30, 31, 32, 33, 34, 35, 36, 37, 38, 39, 40, 41, 42, 43, 44, 45, 46] (by decide +kernel) (by decide +kernel)
set_option maxRecDepth 20000 in
theorem gX6_boxOf_X6_free : GoodIn wsX6_boxOf (wsV RX6 147 RX6 yX6_free wsX6_free) := goodIn_app (goodIn_of _ (by decide +kernel)) ggX6_boxOf_X6_free
set_option maxRecDepth 20000 in
theorem ggX6_seek_X6_boxOf : GoodIn wsX6_seek wsX6_boxOf := goodIn_r _ [10, 4, 5, 3, 11, 12, 13, 9, 14, 15, 16, 17, 18, 19, 20, 21, 22, 23, 24, 25, 26, 27, 28, 29, 30, 31, 32, 33, 34, 35, 36, 37, 38, 39, 40, 41, 42, 43, 44, 45, 46, 47, 48, 49, 50, 51, 52] (by decide +kernel) (by decide +kernel)
set_option maxRecDepth 20000 in
theorem gX6_seek_X6_boxOf : GoodIn wsX6_seek (wsV RX6 158 RX6 yX6_boxOf wsX6_boxOf) := goodIn_app (goodIn_of _ (by decide +kernel)) ggX6_seek_X6_boxOf
set_option maxRecDepth 20000 in
theorem ggX6_findsHand_X6_n : GoodIn wsX6_findsHand wsX6_n := goodIn_r _ [6, 7, 27, 28, 29, 30, 31, 32, 33, 34, 35, 36, 37, 38, 39, 40, 41, 42, 43, 44, 45, 46, 47, 48, 49, 50, 51, 52, 53, 54, 55, 56] (by decide +kernel) (by decide +kernel)
set_option maxRecDepth 20000 in
theorem gX6_findsHand_X6_n : GoodIn wsX6_findsHand (wsV RX6 73 RX6 yX6_n wsX6_n) := goodIn_app (goodIn_of _ (by decide +kernel)) ggX6_findsHand_X6_n
set_option maxRecDepth 20000 in
theorem ggX6_findsHand_X6_seek : GoodIn wsX6_findsHand wsX6_seek := goodIn_r _ [11, 12, 1, 7, 13, 14, 15, 16, 17, 5, 18, 2, 3, 4, 6, 19, 20, 21, 22, 23, 24, 25, 26, 27, 28, 29, 30, 31, 32, 33, 34, 35, 36, 37, 38, 39, 40, 41, 42, 43, 44, 45, 46, 47, 48, 49, 50, 51, 52, 53, 54, 55, 56] (by decide +kernel) (by decide +kernel)
set_option maxRecDepth 20000 in
theorem gX6_findsHand_X6_seek : GoodIn wsX6_findsHand (wsV RX6 162 RX6 yX6_seek wsX6_seek) := goodIn_app (goodIn_of _ (by decide +kernel)) ggX6_findsHand_X6_seek
set_option maxRecDepth 20000 in
theorem ggX6_all_X6_n : GoodIn wsX6_all wsX6_n := goodIn_r _ [5, 6, 7, 8, 9, 10, 11, 12, 13, 14, 15, 16, 17, 18, 19, 20, 21, 22, 23, 24, 25, 26, 27, 28, 29, 30, 31, 32, 33, 34, 35, 36] (by decide +kernel) (by decide +kernel)
set_option maxRecDepth 20000 in
theorem gX6_all_X6_n : GoodIn wsX6_all (wsV RX6 73 RX6 yX6_n wsX6_n) := goodIn_app (goodIn_of _ (by decide +kernel)) ggX6_all_X6_n
set_option maxRecDepth 20000 in
theorem ggX6_slip_X6_isBox : GoodIn wsX6_slip wsX6_isBox := goodIn_r _ [6, 7, 8, 9, 5, 10, 1, 11, 12, 13, 19, 20, 21, 22, 23, 24, 25, 26, 27, 28, 29, 30, 31, 32, 33, 34, 35, 36, 37, 38, 39, 40, 41, 42, 43, 44, 45, 46, 47, 48] (by decide +kernel) (by decide +kernel)
set_option maxRecDepth 20000 in
theorem gX6_slip_X6_isBox : GoodIn wsX6_slip (wsV RX6 91 RX6 yX6_isBox wsX6_isBox) := goodIn_app (goodIn_of _ (by decide +kernel)) ggX6_slip_X6_isBox
set_option maxRecDepth 20000 in
theorem ggX6_slip_X6_bad : GoodIn wsX6_slip wsX6_bad := goodIn_r _ [17, 18, 19, 20, 21, 22, 23, 24, 25, 26, 27, 28, 29, 30, 31, 32, 33, 34, 35, 36, 37, 38, 39, 40, 41, 42, 43, 44, 45, 46, 47, 48] (by decide +kernel) (by decide +kernel)
set_option maxRecDepth 20000 in
theorem gX6_slip_X6_bad : GoodIn wsX6_slip (wsV RX6 85 RX6 yX6_bad wsX6_bad) := goodIn_app (goodIn_of _ (by decide +kernel)) ggX6_slip_X6_bad
set_option maxRecDepth 20000 in
theorem ggX6_rank_X6_rankNow : GoodIn wsX6_rank wsX6_rankNow := goodIn_r _ [5, 6, 7, 8, 4, 9, 10, 11, 12, 13, 14, 15, 16, 17, 18, 19, 20, 21, 22, 23, 24, 25, 26, 27, 28, 29, 30, 31, 32, 33, 34, 35, 36, 37, 38, 39, 40, 41, 42, 43, 44, 45, 46, 47, 48, 49, 50, 51, 52] (by decide +kernel) (by decide +kernel)
set_option maxRecDepth 20000 in
theorem gX6_rank_X6_rankNow : GoodIn wsX6_rank (wsV RX6 110 RX6 yX6_rankNow wsX6_rankNow) := goodIn_app (goodIn_of _ (by decide +kernel)) ggX6_rank_X6_rankNow
set_option maxRecDepth 20000 in
theorem ggX6_ringsHand_X6_n : GoodIn wsX6_ringsHand wsX6_n := goodIn_r _ [6, 7, 8, 9, 10, 11, 12, 13, 14, 15, 16, 17, 18, 19, 20, 21, 22, 23, 24, 25, 26, 27, 28, 29, 30, 31, 32, 33, 34, 35, 36, 37] (by decide +kernel) (by decide +kernel)
set_option maxRecDepth 20000 in
theorem gX6_ringsHand_X6_n : GoodIn wsX6_ringsHand (wsV RX6 73 RX6 yX6_n wsX6_n) := goodIn_app (goodIn_of _ (by decide +kernel)) ggX6_ringsHand_X6_n
set_option maxRecDepth 20000 in
theorem ggX6_rings_X6_isBox : GoodIn wsX6_rings wsX6_isBox := goodIn_r _ [5, 6, 7, 8, 4, 9, 10, 11, 12, 13, 32, 33, 34, 35, 36, 37, 38, 39, 40, 41, 42, 43, 44, 45, 46, 47, 48, 49, 50, 51, 52, 53, 54, 55, 56, 57, 58, 59, 60, 61] (by decide +kernel) (by decide +kernel)
set_option maxRecDepth 20000 in
theorem gX6_rings_X6_isBox : GoodIn wsX6_rings (wsV RX6 91 RX6 yX6_isBox wsX6_isBox) := goodIn_app (goodIn_of _ (by decide +kernel)) ggX6_rings_X6_isBox
set_option maxRecDepth 20000 in
theorem ggX6_rings_X6_bad : GoodIn wsX6_rings wsX6_bad := goodIn_r _ [17, 18, 32, 33, 34, 35, 36, 37, 38, 39, 40, 41, 42, 43, 44, 45, 46, 47, 48, 49, 50, 51, 52, 53, 54, 55, 56, 57, 58, 59, 60, 61] (by decide +kernel) (by decide +kernel)
set_option maxRecDepth 20000 in
theorem gX6_rings_X6_bad : GoodIn wsX6_rings (wsV RX6 85 RX6 yX6_bad wsX6_bad) := goodIn_app (goodIn_of _ (by decide +kernel)) ggX6_rings_X6_bad
set_option maxRecDepth 20000 in
theorem ggX6_rings_X6_takeNow : GoodIn wsX6_rings wsX6_takeNow := goodIn_r _ [22, 23, 10, 6, 7, 8, 4, 9, 32, 33, 34, 35, 36, 37, 38, 39, 40, 41, 42, 43, 44, 45, 46, 47, 48, 49, 50, 51, 52, 53, 54, 55, 56, 57, 58, 59, 60, 61] (by decide +kernel) (by decide +kernel)
set_option maxRecDepth 20000 in
theorem gX6_rings_X6_takeNow : GoodIn wsX6_rings (wsV RX6 100 RX6 yX6_takeNow wsX6_takeNow) := goodIn_app (goodIn_of _ (by decide +kernel)) ggX6_rings_X6_takeNow
set_option maxRecDepth 20000 in
theorem ggX6_rings_X6_ringsHand : GoodIn wsX6_rings wsX6_ringsHand := goodIn_r _ [27, 23, 6, 7, 8, 4, 9, 10, 32, 33, 34, 35, 36, 37, 38, 39, 40, 41, 42, 43, 44, 45, 46, 47, 48, 49, 50, 51, 52, 53, 54, 55, 56, 57, 58, 59, 60, 61] (by decide +kernel) (by decide +kernel)
set_option maxRecDepth 20000 in
theorem gX6_rings_X6_ringsHand : GoodIn wsX6_rings (wsV RX6 165 RX6 yX6_ringsHand wsX6_ringsHand) := goodIn_app (goodIn_of _ (by decide +kernel)) ggX6_rings_X6_ringsHand
set_option maxRecDepth 20000 in
theorem ggX6_rings_X6_ringOf : GoodIn wsX6_rings wsX6_ringOf := goodIn_r _ [31, 23, 32, 33, 34, 35, 36, 37, 38, 39, 40, 41, 42, 43, 44, 45, 46, 47, 48, 49, 50, 51, 52, 53, 54, 55, 56, 57, 58, 59, 60, 61] (by decide +kernel) (by decide +kernel)
set_option maxRecDepth 20000 in
theorem gX6_rings_X6_ringOf : GoodIn wsX6_rings (wsV RX6 168 RX6 yX6_ringOf wsX6_ringOf) := goodIn_app (goodIn_of _ (by decide +kernel)) ggX6_rings_X6_ringOf
set_option maxRecDepth 20000 in
theorem ggX6_opened_X6_isBox : GoodIn wsX6_opened wsX6_isBox := goodIn_r _ [7, 8, 9, 10, 6, 11, 12, 13, 14, 15, 43, 44, 45, 46, 47, 48, 49, 50, 51, 52, 53, 54, 55, 56, 57, 58, 59, 60, 61, 62, 63, 64, 65, 66, 67, 68, 69, 70, 71, 72] (by decide +kernel) (by decide +kernel)
set_option maxRecDepth 20000 in
theorem gX6_opened_X6_isBox : GoodIn wsX6_opened (wsV RX6 91 RX6 yX6_isBox wsX6_isBox) := goodIn_app (goodIn_of _ (by decide +kernel)) ggX6_opened_X6_isBox
set_option maxRecDepth 20000 in
theorem ggX6_opened_X6_bad : GoodIn wsX6_opened wsX6_bad := goodIn_r _ [19, 20, 43, 44, 45, 46, 47, 48, 49, 50, 51, 52, 53, 54, 55, 56, 57, 58, 59, 60, 61, 62, 63, 64, 65, 66, 67, 68, 69, 70, 71, 72] (by decide +kernel) (by decide +kernel)
set_option maxRecDepth 20000 in
theorem gX6_opened_X6_bad : GoodIn wsX6_opened (wsV RX6 85 RX6 yX6_bad wsX6_bad) := goodIn_app (goodIn_of _ (by decide +kernel)) ggX6_opened_X6_bad
set_option maxRecDepth 20000 in
theorem ggX6_opened_X6_takeNow : GoodIn wsX6_opened wsX6_takeNow := goodIn_r _ [24, 25, 12, 8, 9, 10, 6, 11, 43, 44, 45, 46, 47, 48, 49, 50, 51, 52, 53, 54, 55, 56, 57, 58, 59, 60, 61, 62, 63, 64, 65, 66, 67, 68, 69, 70, 71, 72] (by decide +kernel) (by decide +kernel)
set_option maxRecDepth 20000 in
theorem gX6_opened_X6_takeNow : GoodIn wsX6_opened (wsV RX6 100 RX6 yX6_takeNow wsX6_takeNow) := goodIn_app (goodIn_of _ (by decide +kernel)) ggX6_opened_X6_takeNow
set_option maxRecDepth 20000 in
theorem ggX6_opened_X6_seek : GoodIn wsX6_opened wsX6_seek := goodIn_r _ [29, 1, 30, 12, 2, 25, 31, 32, 33, 6, 34, 8, 9, 10, 11, 35, 36, 37, 38, 39, 40, 41, 42, 43, 44, 45, 46, 47, 48, 49, 50, 51, 52, 53, 54, 55, 56, 57, 58, 59, 60, 61, 62, 63, 64, 65, 66, 67, 68, 69, 70, 71, 72] (by decide +kernel) (by decide +kernel)
set_option maxRecDepth 20000 in
theorem gX6_opened_X6_seek : GoodIn wsX6_opened (wsV RX6 162 RX6 yX6_seek wsX6_seek) := goodIn_app (goodIn_of _ (by decide +kernel)) ggX6_opened_X6_seek
set_option maxRecDepth 20000 in
theorem ggX6_finds_X6_takeNow : GoodIn wsX6_finds wsX6_takeNow := goodIn_r _ [5, 6, 7, 8, 9, 10, 4, 11, 35, 36, 37, 38, 39, 40, 41, 42, 43, 44, 45, 46, 47, 48, 49, 50, 51, 52, 53, 54, 55, 56, 57, 58, 59, 60, 61, 62, 63, 64] (by decide +kernel) (by decide +kernel)
set_option maxRecDepth 20000 in
theorem gX6_finds_X6_takeNow : GoodIn wsX6_finds (wsV RX6 100 RX6 yX6_takeNow wsX6_takeNow) := goodIn_app (goodIn_of _ (by decide +kernel)) ggX6_finds_X6_takeNow
set_option maxRecDepth 20000 in
theorem ggX6_finds_X6_findsHand : GoodIn wsX6_finds wsX6_findsHand := goodIn_r _ [15, 16, 8, 9, 10, 4, 11, 7, 17, 18, 19, 20, 21, 22, 6, 23, 24, 25, 26, 27, 28, 29, 30, 31, 32, 33, 34, 35, 36, 37, 38, 39, 40, 41, 42, 43, 44, 45, 46, 47, 48, 49, 50, 51, 52, 53, 54, 55, 56, 57, 58, 59, 60, 61, 62, 63, 64] (by decide +kernel) (by decide +kernel)
set_option maxRecDepth 20000 in
theorem gX6_finds_X6_findsHand : GoodIn wsX6_finds (wsV RX6 171 RX6 yX6_findsHand wsX6_findsHand) := goodIn_app (goodIn_of _ (by decide +kernel)) ggX6_finds_X6_findsHand
set_option maxRecDepth 20000 in
theorem ggX6_workHand_X6_n : GoodIn wsX6_workHand wsX6_n := goodIn_r _ [7, 1, 8, 9, 10, 11, 12, 13, 14, 15, 16, 17, 18, 19, 20, 21, 22, 23, 24, 25, 26, 27, 28, 29, 30, 31, 32, 33, 34, 35, 36, 37] (by decide +kernel) (by decide +kernel)
set_option maxRecDepth 20000 in
theorem gX6_workHand_X6_n : GoodIn wsX6_workHand (wsV RX6 73 RX6 yX6_n wsX6_n) := goodIn_app (goodIn_of _ (by decide +kernel)) ggX6_workHand_X6_n
set_option maxRecDepth 20000 in
theorem ggX6_worked_X6_in : GoodIn wsX6_worked wsX6_in := goodIn_r _ [5] (by decide +kernel) (by decide +kernel)
set_option maxRecDepth 20000 in
theorem gX6_worked_X6_in : GoodIn wsX6_worked (va_wsS RX6 77 yX6_in wsX6_in) := goodIn_app (goodIn_of _ (by decide +kernel)) ggX6_worked_X6_in
set_option maxRecDepth 20000 in
theorem ggX6_worked_X6_bad : GoodIn wsX6_worked wsX6_bad := goodIn_r _ [9, 10, 28, 29, 30, 31, 32, 33, 34, 35, 36, 37, 38, 39, 40, 41, 42, 43, 44, 45, 46, 47, 48, 49, 50, 51, 52, 53, 54, 55, 56, 57] (by decide +kernel) (by decide +kernel)
set_option maxRecDepth 20000 in
theorem gX6_worked_X6_bad : GoodIn wsX6_worked (wsV RX6 85 RX6 yX6_bad wsX6_bad) := goodIn_app (goodIn_of _ (by decide +kernel)) ggX6_worked_X6_bad
set_option maxRecDepth 20000 in
theorem ggX6_worked_X6_workHand : GoodIn wsX6_worked wsX6_workHand := goodIn_r _ [14, 15, 16, 17, 18, 19, 4, 20, 28, 29, 30, 31, 32, 33, 34, 35, 36, 37, 38, 39, 40, 41, 42, 43, 44, 45, 46, 47, 48, 49, 50, 51, 52, 53, 54, 55, 56, 57] (by decide +kernel) (by decide +kernel)
set_option maxRecDepth 20000 in
theorem gX6_worked_X6_workHand : GoodIn wsX6_worked (wsV RX6 176 RX6 yX6_workHand wsX6_workHand) := goodIn_app (goodIn_of _ (by decide +kernel)) ggX6_worked_X6_workHand
set_option maxRecDepth 20000 in
theorem ggX6_worked_X6_rankOf : GoodIn wsX6_worked wsX6_rankOf := goodIn_r _ [24, 16, 17, 18, 19, 4, 20, 15, 25, 26, 27, 28, 29, 30, 31, 32, 33, 34, 35, 36, 37, 38, 39, 40, 41, 42, 43, 44, 45, 46, 47, 48, 49, 50, 51, 52, 53, 54, 55, 56, 57] (by decide +kernel) (by decide +kernel)
set_option maxRecDepth 20000 in
theorem gX6_worked_X6_rankOf : GoodIn wsX6_worked (wsV RX6 103 RX6 yX6_rankOf wsX6_rankOf) := goodIn_app (goodIn_of _ (by decide +kernel)) ggX6_worked_X6_rankOf
set_option maxRecDepth 20000 in
theorem ggX6_back_X6_workHand : GoodIn wsX6_back wsX6_workHand := goodIn_r _ [5, 6, 7, 8, 9, 10, 4, 11, 19, 20, 21, 22, 23, 24, 25, 26, 27, 28, 29, 30, 31, 32, 33, 34, 35, 36, 37, 38, 39, 40, 41, 42, 43, 44, 45, 46, 47, 48] (by decide +kernel) (by decide +kernel)
set_option maxRecDepth 20000 in
theorem gX6_back_X6_workHand : GoodIn wsX6_back (wsV RX6 176 RX6 yX6_workHand wsX6_workHand) := goodIn_app (goodIn_of _ (by decide +kernel)) ggX6_back_X6_workHand
set_option maxRecDepth 20000 in
theorem ggX6_back_X6_rankOf : GoodIn wsX6_back wsX6_rankOf := goodIn_r _ [15, 7, 8, 9, 10, 4, 11, 6, 16, 17, 18, 19, 20, 21, 22, 23, 24, 25, 26, 27, 28, 29, 30, 31, 32, 33, 34, 35, 36, 37, 38, 39, 40, 41, 42, 43, 44, 45, 46, 47, 48] (by decide +kernel) (by decide +kernel)
set_option maxRecDepth 20000 in
theorem gX6_back_X6_rankOf : GoodIn wsX6_back (wsV RX6 103 RX6 yX6_rankOf wsX6_rankOf) := goodIn_app (goodIn_of _ (by decide +kernel)) ggX6_back_X6_rankOf
set_option maxRecDepth 20000 in
theorem ggX6_undoes_X6_n : GoodIn wsX6_undoes wsX6_n := goodIn_r _ [7, 2, 15, 16, 17, 18, 19, 20, 21, 22, 23, 24, 25, 26, 27, 28, 29, 30, 31, 32, 33, 34, 35, 36, 37, 38, 39, 40, 41, 42, 43, 44] (by decide +kernel) (by decide +kernel)
set_option maxRecDepth 20000 in
theorem gX6_undoes_X6_n : GoodIn wsX6_undoes (wsV RX6 73 RX6 yX6_n wsX6_n) := goodIn_app (goodIn_of _ (by decide +kernel)) ggX6_undoes_X6_n
set_option maxRecDepth 20000 in
theorem ggX6_undoes_X6_rankOf : GoodIn wsX6_undoes wsX6_rankOf := goodIn_r _ [11, 1, 3, 4, 5, 6, 7, 2, 12, 13, 14, 15, 16, 17, 18, 19, 20, 21, 22, 23, 24, 25, 26, 27, 28, 29, 30, 31, 32, 33, 34, 35, 36, 37, 38, 39, 40, 41, 42, 43, 44] (by decide +kernel) (by decide +kernel)
set_option maxRecDepth 20000 in
theorem gX6_undoes_X6_rankOf : GoodIn wsX6_undoes (wsV RX6 103 RX6 yX6_rankOf wsX6_rankOf) := goodIn_app (goodIn_of _ (by decide +kernel)) ggX6_undoes_X6_rankOf
set_option maxRecDepth 20000 in
theorem ggX6_goes_X6_takeRank : GoodIn wsX6_goes wsX6_takeRank := goodIn_r _ [7, 1, 8, 9, 10, 6, 11, 2, 12, 13, 14, 15, 16, 17, 18, 19, 20, 21, 22, 23, 24, 25, 26, 27, 28, 29, 30, 31, 32, 33, 34, 35, 36, 37, 38, 39, 40, 41, 42, 43, 44] (by decide +kernel) (by decide +kernel)
set_option maxRecDepth 20000 in
theorem gX6_goes_X6_takeRank : GoodIn wsX6_goes (wsV RX6 123 RX6 yX6_takeRank wsX6_takeRank) := goodIn_app (goodIn_of _ (by decide +kernel)) ggX6_goes_X6_takeRank
set_option maxRecDepth 20000 in
theorem ggX6_goes_X6_n : GoodIn wsX6_goes wsX6_n := goodIn_r _ [11, 2, 15, 16, 17, 18, 19, 20, 21, 22, 23, 24, 25, 26, 27, 28, 29, 30, 31, 32, 33, 34, 35, 36, 37, 38, 39, 40, 41, 42, 43, 44] (by decide +kernel) (by decide +kernel)
set_option maxRecDepth 20000 in
theorem gX6_goes_X6_n : GoodIn wsX6_goes (wsV RX6 73 RX6 yX6_n wsX6_n) := goodIn_app (goodIn_of _ (by decide +kernel)) ggX6_goes_X6_n
set_option maxRecDepth 20000 in
theorem ggX6_goesWith_X6_ways : GoodIn wsX6_goesWith wsX6_ways := goodIn_r _ [5, 6, 7, 8, 4, 9, 10, 11, 12, 13, 23, 24, 25, 26, 27, 28, 29, 30, 31, 32, 33, 34, 35, 36, 37, 38, 39, 40, 41, 42, 43, 44, 45, 46, 47, 48, 49, 50, 51, 52] (by decide +kernel) (by decide +kernel)
set_option maxRecDepth 20000 in
theorem gX6_goesWith_X6_ways : GoodIn wsX6_goesWith (wsV RX6 120 RX6 yX6_ways wsX6_ways) := goodIn_app (goodIn_of _ (by decide +kernel)) ggX6_goesWith_X6_ways
set_option maxRecDepth 20000 in
theorem ggX6_goesWith_X6_goes : GoodIn wsX6_goesWith wsX6_goes := goodIn_r _ [17, 18, 10, 19, 20, 21, 4, 22, 6, 7, 8, 9, 11, 12, 13, 23, 24, 25, 26, 27, 28, 29, 30, 31, 32, 33, 34, 35, 36, 37, 38, 39, 40, 41, 42, 43, 44, 45, 46, 47, 48, 49, 50, 51, 52] (by decide +kernel) (by decide +kernel)
set_option maxRecDepth 20000 in
theorem gX6_goesWith_X6_goes : GoodIn wsX6_goesWith (wsV RX6 179 RX6 yX6_goes wsX6_goes) := goodIn_app (goodIn_of _ (by decide +kernel)) ggX6_goesWith_X6_goes
set_option maxRecDepth 20000 in
theorem ggX6_isRoot_X6_takeRank : GoodIn wsX6_isRoot wsX6_takeRank := goodIn_r _ [7, 1, 8, 9, 10, 6, 11, 2, 12, 13, 14, 15, 16, 17, 18, 19, 20, 21, 22, 23, 24, 25, 26, 27, 28, 29, 30, 31, 32, 33, 34, 35, 36, 37, 38, 39, 40, 41, 42, 43, 44] (by decide +kernel) (by decide +kernel)
set_option maxRecDepth 20000 in
theorem gX6_isRoot_X6_takeRank : GoodIn wsX6_isRoot (wsV RX6 123 RX6 yX6_takeRank wsX6_takeRank) := goodIn_app (goodIn_of _ (by decide +kernel)) ggX6_isRoot_X6_takeRank
set_option maxRecDepth 20000 in
theorem ggX6_isRoot_X6_n : GoodIn wsX6_isRoot wsX6_n := goodIn_r _ [11, 2, 15, 16, 17, 18, 19, 20, 21, 22, 23, 24, 25, 26, 27, 28, 29, 30, 31, 32, 33, 34, 35, 36, 37, 38, 39, 40, 41, 42, 43, 44] (by decide +kernel) (by decide +kernel)
set_option maxRecDepth 20000 in
theorem gX6_isRoot_X6_n : GoodIn wsX6_isRoot (wsV RX6 73 RX6 yX6_n wsX6_n) := goodIn_app (goodIn_of _ (by decide +kernel)) ggX6_isRoot_X6_n
set_option maxRecDepth 20000 in
theorem ggX6_roots_X6_in : GoodIn wsX6_roots wsX6_in := goodIn_r _ [6] (by decide +kernel) (by decide +kernel)
set_option maxRecDepth 20000 in
theorem gX6_roots_X6_in : GoodIn wsX6_roots (va_wsS RX6 77 yX6_in wsX6_in) := goodIn_app (goodIn_of _ (by decide +kernel)) ggX6_roots_X6_in
set_option maxRecDepth 20000 in
theorem ggX6_roots_X6_bad : GoodIn wsX6_roots wsX6_bad := goodIn_r _ [10, 11, 33, 34, 35, 36, 37, 38, 39, 40, 41, 42, 43, 44, 45, 46, 47, 48, 49, 50, 51, 52, 53, 54, 55, 56, 57, 58, 59, 60, 61, 62] (by decide +kernel) (by decide +kernel)
set_option maxRecDepth 20000 in
theorem gX6_roots_X6_bad : GoodIn wsX6_roots (wsV RX6 85 RX6 yX6_bad wsX6_bad) := goodIn_app (goodIn_of _ (by decide +kernel)) ggX6_roots_X6_bad
set_option maxRecDepth 20000 in
theorem ggX6_roots_X6_ways : GoodIn wsX6_roots wsX6_ways := goodIn_r _ [15, 16, 17, 18, 5, 19, 20, 21, 22, 23, 33, 34, 35, 36, 37, 38, 39, 40, 41, 42, 43, 44, 45, 46, 47, 48, 49, 50, 51, 52, 53, 54, 55, 56, 57, 58, 59, 60, 61, 62] (by decide +kernel) (by decide +kernel)
set_option maxRecDepth 20000 in
theorem gX6_roots_X6_ways : GoodIn wsX6_roots (wsV RX6 120 RX6 yX6_ways wsX6_ways) := goodIn_app (goodIn_of _ (by decide +kernel)) ggX6_roots_X6_ways
set_option maxRecDepth 20000 in
theorem ggX6_roots_X6_isRoot : GoodIn wsX6_roots wsX6_isRoot := goodIn_r _ [27, 28, 20, 29, 30, 31, 5, 32, 16, 17, 18, 19, 21, 22, 23, 33, 34, 35, 36, 37, 38, 39, 40, 41, 42, 43, 44, 45, 46, 47, 48, 49, 50, 51, 52, 53, 54, 55, 56, 57, 58, 59, 60, 61, 62] (by decide +kernel) (by decide +kernel)
set_option maxRecDepth 20000 in
theorem gX6_roots_X6_isRoot : GoodIn wsX6_roots (wsV RX6 184 RX6 yX6_isRoot wsX6_isRoot) := goodIn_app (goodIn_of _ (by decide +kernel)) ggX6_roots_X6_isRoot
set_option maxRecDepth 20000 in
theorem ggX6_lengths_X6_n : GoodIn wsX6_lengths wsX6_n := goodIn_r _ [5, 6, 12, 13, 14, 15, 16, 17, 18, 19, 20, 21, 22, 23, 24, 25, 26, 27, 28, 29, 30, 31, 32, 33, 34, 35, 36, 37, 38, 39, 40, 41] (by decide +kernel) (by decide +kernel)
set_option maxRecDepth 20000 in
theorem gX6_lengths_X6_n : GoodIn wsX6_lengths (wsV RX6 73 RX6 yX6_n wsX6_n) := goodIn_app (goodIn_of _ (by decide +kernel)) ggX6_lengths_X6_n
set_option maxRecDepth 20000 in
theorem ggX6_lengths_X6_ringOf : GoodIn wsX6_lengths wsX6_ringOf := goodIn_r _ [10, 11, 12, 13, 14, 15, 16, 17, 18, 19, 20, 21, 22, 23, 24, 25, 26, 27, 28, 29, 30, 31, 32, 33, 34, 35, 36, 37, 38, 39, 40, 41] (by decide +kernel) (by decide +kernel)
set_option maxRecDepth 20000 in
theorem gX6_lengths_X6_ringOf : GoodIn wsX6_lengths (wsV RX6 168 RX6 yX6_ringOf wsX6_ringOf) := goodIn_app (goodIn_of _ (by decide +kernel)) ggX6_lengths_X6_ringOf
set_option maxRecDepth 20000 in
theorem ggX6_isRank_X6_ways : GoodIn wsX6_isRank wsX6_ways := goodIn_r _ [5, 6, 7, 8, 4, 9, 10, 11, 12, 13, 17, 18, 19, 20, 21, 22, 23, 24, 25, 26, 27, 28, 29, 30, 31, 32, 33, 34, 35, 36, 37, 38, 39, 40, 41, 42, 43, 44, 45, 46] (by decide +kernel) (by decide +kernel)
set_option maxRecDepth 20000 in
theorem gX6_isRank_X6_ways : GoodIn wsX6_isRank (wsV RX6 120 RX6 yX6_ways wsX6_ways) := goodIn_app (goodIn_of _ (by decide +kernel)) ggX6_isRank_X6_ways
set_option maxRecDepth 20000 in
theorem ggX6_isRank_X6_in : GoodIn wsX6_isRank wsX6_in := goodIn_r _ [16] (by decide +kernel) (by decide +kernel)
set_option maxRecDepth 20000 in
theorem gX6_isRank_X6_in : GoodIn wsX6_isRank (va_wsS RX6 77 yX6_in wsX6_in) := goodIn_app (goodIn_of _ (by decide +kernel)) ggX6_isRank_X6_in
