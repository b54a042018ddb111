set_option maxRecDepth 20000 in
theorem ggX6_alike_X6_isRank : GoodIn wsX6_alike wsX6_isRank := goodIn_r _ [5, 6, 7, 8, 4, 9, 10, 11, 12, 13, 14, 15, 16, 17, 18, 19, 20, 43, 44, 45, 46, 47, 48, 49, 50, 51, 52, 53, 54, 55, 56, 57, 58, 59, 60, 61, 62, 63, 64, 65, 66, 67, 68, 69, 70, 71, 72] (by decide +kernel) (by decide +kernel)
set_option maxRecDepth 20000 in
theorem gX6_alike_X6_isRank : GoodIn wsX6_alike (wsV RX6 188 RX6 yX6_isRank wsX6_isRank) := goodIn_app (goodIn_of _ (by decide +kernel)) ggX6_alike_X6_isRank
set_option maxRecDepth 20000 in
theorem ggX6_alike_X6_bad : GoodIn wsX6_alike wsX6_bad := goodIn_r _ [24, 25, 43, 44, 45, 46, 47, 48, 49, 50, 51, 52, 53, 54, 55, 56, 57, 58, 59, 60, 61, 62, 63, 64, 65, 66, 67, 68, 69, 70, 71, 72] (by decide +kernel) (by decide +kernel)
set_option maxRecDepth 20000 in
theorem gX6_alike_X6_bad : GoodIn wsX6_alike (wsV RX6 85 RX6 yX6_bad wsX6_bad) := goodIn_app (goodIn_of _ (by decide +kernel)) ggX6_alike_X6_bad
set_option maxRecDepth 20000 in
theorem ggX6_alike_X6_takeNow : GoodIn wsX6_alike wsX6_takeNow := goodIn_r _ [29, 30, 14, 10, 11, 12, 4, 13, 43, 44, 45, 46, 47, 48, 49, 50, 51, 52, 53, 54, 55, 56, 57, 58, 59, 60, 61, 62, 63, 64, 65, 66, 67, 68, 69, 70, 71, 72] (by decide +kernel) (by decide +kernel)
set_option maxRecDepth 20000 in
theorem gX6_alike_X6_takeNow : GoodIn wsX6_alike (wsV RX6 100 RX6 yX6_takeNow wsX6_takeNow) := goodIn_app (goodIn_of _ (by decide +kernel)) ggX6_alike_X6_takeNow
set_option maxRecDepth 20000 in
theorem ggX6_alike_X6_lengths : GoodIn wsX6_alike wsX6_lengths := goodIn_r _ [34, 10, 11, 12, 4, 13, 14, 35, 36, 37, 38, 30, 43, 44, 45, 46, 47, 48, 49, 50, 51, 52, 53, 54, 55, 56, 57, 58, 59, 60, 61, 62, 63, 64, 65, 66, 67, 68, 69, 70, 71, 72] (by decide +kernel) (by decide +kernel)
set_option maxRecDepth 20000 in
theorem gX6_alike_X6_lengths : GoodIn wsX6_alike (wsV RX6 191 RX6 yX6_lengths wsX6_lengths) := goodIn_app (goodIn_of _ (by decide +kernel)) ggX6_alike_X6_lengths
set_option maxRecDepth 20000 in
theorem ggX6_alike_X6_takeRank : GoodIn wsX6_alike wsX6_takeRank := goodIn_r _ [42, 30, 10, 11, 12, 4, 13, 14, 15, 16, 17, 43, 44, 45, 46, 47, 48, 49, 50, 51, 52, 53, 54, 55, 56, 57, 58, 59, 60, 61, 62, 63, 64, 65, 66, 67, 68, 69, 70, 71, 72] (by decide +kernel) (by decide +kernel)
set_option maxRecDepth 20000 in
theorem gX6_alike_X6_takeRank : GoodIn wsX6_alike (wsV RX6 123 RX6 yX6_takeRank wsX6_takeRank) := goodIn_app (goodIn_of _ (by decide +kernel)) ggX6_alike_X6_takeRank
set_option maxRecDepth 20000 in
theorem ggX6_even_X6_takeNow : GoodIn wsX6_even wsX6_takeNow := goodIn_r _ [5, 6, 7, 8, 9, 10, 4, 11, 16, 17, 18, 19, 20, 21, 22, 23, 24, 25, 26, 27, 28, 29, 30, 31, 32, 33, 34, 35, 36, 37, 38, 39, 40, 41, 42, 43, 44, 45] (by decide +kernel) (by decide +kernel)
set_option maxRecDepth 20000 in
theorem gX6_even_X6_takeNow : GoodIn wsX6_even (wsV RX6 100 RX6 yX6_takeNow wsX6_takeNow) := goodIn_app (goodIn_of _ (by decide +kernel)) ggX6_even_X6_takeNow
set_option maxRecDepth 20000 in
theorem ggX6_even_X6_n : GoodIn wsX6_even wsX6_n := goodIn_r _ [11, 7, 16, 17, 18, 19, 20, 21, 22, 23, 24, 25, 26, 27, 28, 29, 30, 31, 32, 33, 34, 35, 36, 37, 38, 39, 40, 41, 42, 43, 44, 45] (by decide +kernel) (by decide +kernel)
set_option maxRecDepth 20000 in
theorem gX6_even_X6_n : GoodIn wsX6_even (wsV RX6 73 RX6 yX6_n wsX6_n) := goodIn_app (goodIn_of _ (by decide +kernel)) ggX6_even_X6_n
set_option maxRecDepth 20000 in
theorem ggX6_even_X6_ringsHand : GoodIn wsX6_even wsX6_ringsHand := goodIn_r _ [15, 6, 8, 9, 10, 4, 11, 7, 16, 17, 18, 19, 20, 21, 22, 23, 24, 25, 26, 27, 28, 29, 30, 31, 32, 33, 34, 35, 36, 37, 38, 39, 40, 41, 42, 43, 44, 45] (by decide +kernel) (by decide +kernel)
set_option maxRecDepth 20000 in
theorem gX6_even_X6_ringsHand : GoodIn wsX6_even (wsV RX6 165 RX6 yX6_ringsHand wsX6_ringsHand) := goodIn_app (goodIn_of _ (by decide +kernel)) ggX6_even_X6_ringsHand
set_option maxRecDepth 20000 in
theorem ggX6_move_X6_isRank : GoodIn wsX6_move wsX6_isRank := goodIn_r _ [6, 7, 8, 9, 5, 10, 11, 12, 13, 14, 1, 15, 16, 17, 18, 19, 20, 30, 31, 32, 33, 34, 35, 36, 37, 38, 39, 40, 41, 42, 43, 44, 45, 46, 47, 48, 49, 50, 51, 52, 53, 54, 55, 56, 57, 58, 59] (by decide +kernel) (by decide +kernel)
set_option maxRecDepth 20000 in
theorem gX6_move_X6_isRank : GoodIn wsX6_move (wsV RX6 188 RX6 yX6_isRank wsX6_isRank) := goodIn_app (goodIn_of _ (by decide +kernel)) ggX6_move_X6_isRank
set_option maxRecDepth 20000 in
theorem ggX6_move_X6_bad : GoodIn wsX6_move wsX6_bad := goodIn_r _ [24, 25, 30, 31, 32, 33, 34, 35, 36, 37, 38, 39, 40, 41, 42, 43, 44, 45, 46, 47, 48, 49, 50, 51, 52, 53, 54, 55, 56, 57, 58, 59] (by decide +kernel) (by decide +kernel)
set_option maxRecDepth 20000 in
theorem gX6_move_X6_bad : GoodIn wsX6_move (wsV RX6 85 RX6 yX6_bad wsX6_bad) := goodIn_app (goodIn_of _ (by decide +kernel)) ggX6_move_X6_bad
set_option maxRecDepth 20000 in
theorem ggX6_move_X6_full : GoodIn wsX6_move wsX6_full := goodIn_r _ [29, 25, 30, 31, 32, 33, 34, 35, 36, 37, 38, 39, 40, 41, 42, 43, 44, 45, 46, 47, 48, 49, 50, 51, 52, 53, 54, 55, 56, 57, 58, 59] (by decide +kernel) (by decide +kernel)
set_option maxRecDepth 20000 in
theorem gX6_move_X6_full : GoodIn wsX6_move (wsV RX6 134 RX6 yX6_full wsX6_full) := goodIn_app (goodIn_of _ (by decide +kernel)) ggX6_move_X6_full
set_option maxRecDepth 20000 in
theorem ggX6_drop_X6_no : GoodIn wsX6_drop wsX6_no := goodIn_r _ [6, 7, 8, 9, 10, 11, 12, 13, 14, 15, 16, 17, 18, 19, 20, 21, 22, 23, 24, 25, 26, 27, 28, 29, 30, 31, 32, 33, 34, 35, 36, 37] (by decide +kernel) (by decide +kernel)
set_option maxRecDepth 20000 in
theorem gX6_drop_X6_no : GoodIn wsX6_drop (wsV RX6 127 RX6 yX6_no wsX6_no) := goodIn_app (goodIn_of _ (by decide +kernel)) ggX6_drop_X6_no
set_option maxRecDepth 20000 in
theorem ggX6_makeHand_X6_n : GoodIn wsX6_makeHand wsX6_n := goodIn_r _ [9, 3, 17, 18, 19, 20, 21, 22, 23, 24, 25, 26, 27, 28, 29, 30, 31, 32, 33, 34, 35, 36, 37, 38, 39, 40, 41, 42, 43, 44, 45, 46] (by decide +kernel) (by decide +kernel)
set_option maxRecDepth 20000 in
theorem gX6_makeHand_X6_n : GoodIn wsX6_makeHand (wsV RX6 73 RX6 yX6_n wsX6_n) := goodIn_app (goodIn_of _ (by decide +kernel)) ggX6_makeHand_X6_n
set_option maxRecDepth 20000 in
theorem ggX6_makeHand_X6_takeRank : GoodIn wsX6_makeHand wsX6_takeRank := goodIn_r _ [13, 2, 5, 6, 7, 8, 9, 3, 14, 15, 16, 17, 18, 19, 20, 21, 22, 23, 24, 25, 26, 27, 28, 29, 30, 31, 32, 33, 34, 35, 36, 37, 38, 39, 40, 41, 42, 43, 44, 45, 46] (by decide +kernel) (by decide +kernel)
set_option maxRecDepth 20000 in
theorem gX6_makeHand_X6_takeRank : GoodIn wsX6_makeHand (wsV RX6 123 RX6 yX6_takeRank wsX6_takeRank) := goodIn_app (goodIn_of _ (by decide +kernel)) ggX6_makeHand_X6_takeRank
set_option maxRecDepth 20000 in
theorem ggX6_make_X6_in : GoodIn wsX6_make wsX6_in := goodIn_r _ [6] (by decide +kernel) (by decide +kernel)
set_option maxRecDepth 20000 in
theorem gX6_make_X6_in : GoodIn wsX6_make (va_wsS RX6 77 yX6_in wsX6_in) := goodIn_app (goodIn_of _ (by decide +kernel)) ggX6_make_X6_in
set_option maxRecDepth 20000 in
theorem ggX6_make_X6_bad : GoodIn wsX6_make wsX6_bad := goodIn_r _ [10, 11, 46, 47, 48, 49, 50, 51, 52, 53, 54, 55, 56, 57, 58, 59, 60, 61, 62, 63, 64, 65, 66, 67, 68, 69, 70, 71, 72, 73, 74, 75] (by decide +kernel) (by decide +kernel)
set_option maxRecDepth 20000 in
theorem gX6_make_X6_bad : GoodIn wsX6_make (wsV RX6 85 RX6 yX6_bad wsX6_bad) := goodIn_app (goodIn_of _ (by decide +kernel)) ggX6_make_X6_bad
set_option maxRecDepth 20000 in
theorem ggX6_make_X6_rankNow : GoodIn wsX6_make wsX6_rankNow := goodIn_r _ [15, 16, 17, 18, 5, 19, 20, 1, 21, 22, 23, 24, 25, 26, 27, 28, 29, 30, 31, 46, 47, 48, 49, 50, 51, 52, 53, 54, 55, 56, 57, 58, 59, 60, 61, 62, 63, 64, 65, 66, 67, 68, 69, 70, 71, 72, 73, 74, 75] (by decide +kernel) (by decide +kernel)
set_option maxRecDepth 20000 in
theorem gX6_make_X6_rankNow : GoodIn wsX6_make (wsV RX6 110 RX6 yX6_rankNow wsX6_rankNow) := goodIn_app (goodIn_of _ (by decide +kernel)) ggX6_make_X6_rankNow
set_option maxRecDepth 20000 in
theorem ggX6_make_X6_makeHand : GoodIn wsX6_make wsX6_makeHand := goodIn_r _ [35, 36, 20, 1, 37, 21, 22, 23, 5, 24, 38, 39, 40, 41, 29, 30, 31, 46, 47, 48, 49, 50, 51, 52, 53, 54, 55, 56, 57, 58, 59, 60, 61, 62, 63, 64, 65, 66, 67, 68, 69, 70, 71, 72, 73, 74, 75] (by decide +kernel) (by decide +kernel)
set_option maxRecDepth 20000 in
theorem gX6_make_X6_makeHand : GoodIn wsX6_make (wsV RX6 194 RX6 yX6_makeHand wsX6_makeHand) := goodIn_app (goodIn_of _ (by decide +kernel)) ggX6_make_X6_makeHand
set_option maxRecDepth 20000 in
theorem ggX6_make_X6_putWay : GoodIn wsX6_make wsX6_putWay := goodIn_r _ [45, 1, 2, 20, 21, 22, 23, 5, 24, 46, 47, 48, 49, 50, 51, 52, 53, 54, 55, 56, 57, 58, 59, 60, 61, 62, 63, 64, 65, 66, 67, 68, 69, 70, 71, 72, 73, 74, 75] (by decide +kernel) (by decide +kernel)
set_option maxRecDepth 20000 in
theorem gX6_make_X6_putWay : GoodIn wsX6_make (wsV RX6 117 RX6 yX6_putWay wsX6_putWay) := goodIn_app (goodIn_of _ (by decide +kernel)) ggX6_make_X6_putWay
set_option maxRecDepth 20000 in
theorem ggX6_make_X6_rankOf : GoodIn wsX6_make wsX6_rankOf := goodIn_r _ [28, 20, 21, 22, 23, 5, 24, 1, 29, 30, 31, 46, 47, 48, 49, 50, 51, 52, 53, 54, 55, 56, 57, 58, 59, 60, 61, 62, 63, 64, 65, 66, 67, 68, 69, 70, 71, 72, 73, 74, 75] (by decide +kernel) (by decide +kernel)
set_option maxRecDepth 20000 in
theorem gX6_make_X6_rankOf : GoodIn wsX6_make (wsV RX6 103 RX6 yX6_rankOf wsX6_rankOf) := goodIn_app (goodIn_of _ (by decide +kernel)) ggX6_make_X6_rankOf
set_option maxRecDepth 20000 in
theorem ggX6_behind_X6_takeRank : GoodIn wsX6_behind wsX6_takeRank := goodIn_r _ [5, 6, 7, 8, 9, 4, 10, 11, 12, 13, 14, 25, 26, 27, 28, 29, 30, 31, 32, 33, 34, 35, 36, 37, 38, 39, 40, 41, 42, 43, 44, 45, 46, 47, 48, 49, 50, 51, 52, 53, 54] (by decide +kernel) (by decide +kernel)
set_option maxRecDepth 20000 in
theorem gX6_behind_X6_takeRank : GoodIn wsX6_behind (wsV RX6 123 RX6 yX6_takeRank wsX6_takeRank) := goodIn_app (goodIn_of _ (by decide +kernel)) ggX6_behind_X6_takeRank
set_option maxRecDepth 20000 in
theorem ggX6_behind_X6_makeHand : GoodIn wsX6_behind wsX6_makeHand := goodIn_r _ [18, 19, 6, 11, 20, 7, 8, 9, 4, 10, 1, 2, 3, 5, 12, 13, 14, 25, 26, 27, 28, 29, 30, 31, 32, 33, 34, 35, 36, 37, 38, 39, 40, 41, 42, 43, 44, 45, 46, 47, 48, 49, 50, 51, 52, 53, 54] (by decide +kernel) (by decide +kernel)
set_option maxRecDepth 20000 in
theorem gX6_behind_X6_makeHand : GoodIn wsX6_behind (wsV RX6 194 RX6 yX6_makeHand wsX6_makeHand) := goodIn_app (goodIn_of _ (by decide +kernel)) ggX6_behind_X6_makeHand
set_option maxRecDepth 20000 in
theorem ggX6_behind_X6_rankOf : GoodIn wsX6_behind wsX6_rankOf := goodIn_r _ [24, 6, 7, 8, 9, 4, 10, 11, 12, 13, 14, 25, 26, 27, 28, 29, 30, 31, 32, 33, 34, 35, 36, 37, 38, 39, 40, 41, 42, 43, 44, 45, 46, 47, 48, 49, 50, 51, 52, 53, 54] (by decide +kernel) (by decide +kernel)
set_option maxRecDepth 20000 in
theorem gX6_behind_X6_rankOf : GoodIn wsX6_behind (wsV RX6 103 RX6 yX6_rankOf wsX6_rankOf) := goodIn_app (goodIn_of _ (by decide +kernel)) ggX6_behind_X6_rankOf
set_option maxRecDepth 20000 in
theorem ggX6_findFar_X6_ways : GoodIn wsX6_findFar wsX6_ways := goodIn_r _ [11, 12, 13, 14, 10, 15, 6, 16, 17, 18, 46, 47, 48, 49, 50, 51, 52, 53, 54, 55, 56, 57, 58, 59, 60, 61, 62, 63, 64, 65, 66, 67, 68, 69, 70, 71, 72, 73, 74, 75] (by decide +kernel) (by decide +kernel)
set_option maxRecDepth 20000 in
theorem gX6_findFar_X6_ways : GoodIn wsX6_findFar (wsV RX6 120 RX6 yX6_ways wsX6_ways) := goodIn_app (goodIn_of _ (by decide +kernel)) ggX6_findFar_X6_ways
set_option maxRecDepth 20000 in
theorem ggX6_findFar_X6_rankNow : GoodIn wsX6_findFar wsX6_rankNow := goodIn_r _ [22, 23, 24, 25, 10, 26, 27, 6, 12, 13, 14, 15, 28, 29, 30, 31, 16, 17, 18, 46, 47, 48, 49, 50, 51, 52, 53, 54, 55, 56, 57, 58, 59, 60, 61, 62, 63, 64, 65, 66, 67, 68, 69, 70, 71, 72, 73, 74, 75] (by decide +kernel) (by decide +kernel)
set_option maxRecDepth 20000 in
theorem gX6_findFar_X6_rankNow : GoodIn wsX6_findFar (wsV RX6 110 RX6 yX6_rankNow wsX6_rankNow) := goodIn_app (goodIn_of _ (by decide +kernel)) ggX6_findFar_X6_rankNow
set_option maxRecDepth 20000 in
theorem ggX6_findFar_X6_behind : GoodIn wsX6_findFar wsX6_behind := goodIn_r _ [35, 36, 37, 38, 10, 39, 27, 12, 13, 14, 15, 6, 16, 17, 18, 40, 41, 42, 43, 44, 45, 28, 29, 30, 31, 46, 47, 48, 49, 50, 51, 52, 53, 54, 55, 56, 57, 58, 59, 60, 61, 62, 63, 64, 65, 66, 67, 68, 69, 70, 71, 72, 73, 74, 75] (by decide +kernel) (by decide +kernel)
set_option maxRecDepth 20000 in
theorem gX6_findFar_X6_behind : GoodIn wsX6_findFar (wsV RX6 201 RX6 yX6_behind wsX6_behind) := goodIn_app (goodIn_of _ (by decide +kernel)) ggX6_findFar_X6_behind
set_option maxRecDepth 20000 in
theorem ggX6_group_X6_findFar : GoodIn wsX6_group wsX6_findFar := goodIn_r _ [6, 7, 8, 9, 10, 1, 11, 12, 13, 14, 5, 15, 16, 17, 18, 19, 20, 21, 22, 23, 24, 25, 26, 27, 28, 29, 30, 31, 32, 33, 34, 35, 36, 37, 38, 39, 40, 41, 42, 43, 44, 45, 46, 47, 48, 49, 50, 51, 52, 53, 54, 55, 56, 57, 58, 59, 60, 61, 62, 63, 64, 65, 66, 67, 68, 69, 70, 71, 72, 73, 74, 75, 76, 77, 78, 79] (by decide +kernel) (by decide +kernel)
set_option maxRecDepth 20000 in
theorem gX6_group_X6_findFar : GoodIn wsX6_group (wsV RX6 204 RX6 yX6_findFar wsX6_findFar) := goodIn_app (goodIn_of _ (by decide +kernel)) ggX6_group_X6_findFar
set_option maxRecDepth 20000 in
theorem ggX6_isSought_X6_takeRank : GoodIn wsX6_isSought wsX6_takeRank := goodIn_r _ [5, 6, 7, 8, 9, 4, 10, 11, 12, 13, 14, 42, 43, 44, 45, 46, 47, 48, 49, 50, 51, 52, 53, 54, 55, 56, 57, 58, 59, 60, 61, 62, 63, 64, 65, 66, 67, 68, 69, 70, 71] (by decide +kernel) (by decide +kernel)
set_option maxRecDepth 20000 in
theorem gX6_isSought_X6_takeRank : GoodIn wsX6_isSought (wsV RX6 123 RX6 yX6_takeRank wsX6_takeRank) := goodIn_app (goodIn_of _ (by decide +kernel)) ggX6_isSought_X6_takeRank
set_option maxRecDepth 20000 in
theorem ggX6_isSought_X6_findsHand : GoodIn wsX6_isSought wsX6_findsHand := goodIn_r _ [18, 19, 7, 8, 9, 4, 10, 11, 20, 21, 22, 23, 24, 25, 6, 26, 27, 28, 29, 30, 31, 32, 33, 34, 35, 36, 37, 42, 43, 44, 45, 46, 47, 48, 49, 50, 51, 52, 53, 54, 55, 56, 57, 58, 59, 60, 61, 62, 63, 64, 65, 66, 67, 68, 69, 70, 71] (by decide +kernel) (by decide +kernel)
set_option maxRecDepth 20000 in
theorem gX6_isSought_X6_findsHand : GoodIn wsX6_isSought (wsV RX6 171 RX6 yX6_findsHand wsX6_findsHand) := goodIn_app (goodIn_of _ (by decide +kernel)) ggX6_isSought_X6_findsHand
set_option maxRecDepth 20000 in
theorem ggX6_isSought_X6_all : GoodIn wsX6_isSought wsX6_all := goodIn_r _ [41, 7, 8, 9, 4, 10, 11, 42, 43, 44, 45, 46, 47, 48, 49, 50, 51, 52, 53, 54, 55, 56, 57, 58, 59, 60, 61, 62, 63, 64, 65, 66, 67, 68, 69, 70, 71] (by decide +kernel) (by decide +kernel)
set_option maxRecDepth 20000 in
theorem gX6_isSought_X6_all : GoodIn wsX6_isSought (wsV RX6 207 RX6 yX6_all wsX6_all) := goodIn_app (goodIn_of _ (by decide +kernel)) ggX6_isSought_X6_all
set_option maxRecDepth 20000 in
theorem ggX6_leadsOn_X6_behind : GoodIn wsX6_leadsOn wsX6_behind := goodIn_r _ [7, 8, 9, 10, 6, 11, 12, 13, 14, 15, 16, 17, 18, 19, 20, 21, 22, 23, 24, 25, 26, 27, 28, 29, 30, 31, 32, 33, 34, 35, 36, 37, 38, 39, 40, 41, 42, 43, 44, 45, 46, 47, 48, 49, 50, 51, 52, 53, 54, 55, 56, 57, 58, 59, 60] (by decide +kernel) (by decide +kernel)
set_option maxRecDepth 20000 in
theorem gX6_leadsOn_X6_behind : GoodIn wsX6_leadsOn (wsV RX6 201 RX6 yX6_behind wsX6_behind) := goodIn_app (goodIn_of _ (by decide +kernel)) ggX6_leadsOn_X6_behind
set_option maxRecDepth 20000 in
theorem ggX6_fewestTo_X6_findFar : GoodIn wsX6_fewestTo wsX6_findFar := goodIn_r _ [11, 3, 12, 4, 2, 1, 5, 13, 14, 15, 10, 16, 17, 18, 19, 20, 21, 22, 23, 24, 25, 26, 27, 28, 29, 30, 31, 32, 33, 34, 35, 36, 37, 38, 39, 40, 41, 42, 43, 44, 45, 46, 47, 48, 49, 50, 86, 87, 88, 89, 90, 91, 92, 93, 94, 95, 96, 97, 98, 99, 100, 101, 102, 103, 104, 105, 106, 107, 108, 109, 110, 111, 112, 113, 114, 115] (by decide +kernel) (by decide +kernel)
set_option maxRecDepth 20000 in
theorem gX6_fewestTo_X6_findFar : GoodIn wsX6_fewestTo (wsV RX6 204 RX6 yX6_findFar wsX6_findFar) := goodIn_app (goodIn_of _ (by decide +kernel)) ggX6_fewestTo_X6_findFar
set_option maxRecDepth 20000 in
theorem ggX6_fewestTo_X6_isSought : GoodIn wsX6_fewestTo wsX6_isSought := goodIn_r _ [54, 41, 42, 43, 10, 44, 32, 17, 18, 19, 20, 5, 21, 22, 23, 55, 56, 57, 58, 59, 60, 61, 62, 63, 64, 65, 66, 67, 68, 69, 70, 71, 72, 73, 74, 75, 76, 77, 78, 79, 80, 81, 86, 87, 88, 89, 90, 91, 92, 93, 94, 95, 96, 97, 98, 99, 100, 101, 102, 103, 104, 105, 106, 107, 108, 109, 110, 111, 112, 113, 114, 115] (by decide +kernel) (by decide +kernel)
set_option maxRecDepth 20000 in
theorem gX6_fewestTo_X6_isSought : GoodIn wsX6_fewestTo (wsV RX6 210 RX6 yX6_isSought wsX6_isSought) := goodIn_app (goodIn_of _ (by decide +kernel)) ggX6_fewestTo_X6_isSought
set_option maxRecDepth 20000 in
theorem ggX6_fewestTo_X6_leadsOn : GoodIn wsX6_fewestTo wsX6_leadsOn := goodIn_r _ [85, 3, 4, 37, 38, 39, 10, 40, 41, 42, 43, 44, 32, 17, 18, 19, 20, 5, 21, 22, 23, 45, 46, 47, 48, 49, 50, 33, 34, 35, 36, 86, 87, 88, 89, 90, 91, 92, 93, 94, 95, 96, 97, 98, 99, 100, 101, 102, 103, 104, 105, 106, 107, 108, 109, 110, 111, 112, 113, 114, 115] (by decide +kernel) (by decide +kernel)
set_option maxRecDepth 20000 in
theorem gX6_fewestTo_X6_leadsOn : GoodIn wsX6_fewestTo (wsV RX6 213 RX6 yX6_leadsOn wsX6_leadsOn) := goodIn_app (goodIn_of _ (by decide +kernel)) ggX6_fewestTo_X6_leadsOn
set_option maxRecDepth 20000 in
theorem ggX6_fewestTo_X6_behind : GoodIn wsX6_fewestTo wsX6_behind := goodIn_r _ [40, 41, 42, 43, 10, 44, 32, 17, 18, 19, 20, 5, 21, 22, 23, 45, 46, 47, 48, 49, 50, 33, 34, 35, 36, 86, 87, 88, 89, 90, 91, 92, 93, 94, 95, 96, 97, 98, 99, 100, 101, 102, 103, 104, 105, 106, 107, 108, 109, 110, 111, 112, 113, 114, 115] (by decide +kernel) (by decide +kernel)
set_option maxRecDepth 20000 in
theorem gX6_fewestTo_X6_behind : GoodIn wsX6_fewestTo (wsV RX6 201 RX6 yX6_behind wsX6_behind) := goodIn_app (goodIn_of _ (by decide +kernel)) ggX6_fewestTo_X6_behind
set_option maxRecDepth 20000 in
theorem ggX6_fewest_X6_isRank : GoodIn wsX6_fewest wsX6_isRank := goodIn_r _ [5, 6, 7, 8, 4, 9, 10, 11, 12, 13, 14, 15, 16, 17, 18, 19, 20, 102, 103, 104, 105, 106, 107, 108, 109, 110, 111, 112, 113, 114, 115, 116, 117, 118, 119, 120, 121, 122, 123, 124, 125, 126, 127, 128, 129, 130, 131] (by decide +kernel) (by decide +kernel)
set_option maxRecDepth 20000 in
theorem gX6_fewest_X6_isRank : GoodIn wsX6_fewest (wsV RX6 188 RX6 yX6_isRank wsX6_isRank) := goodIn_app (goodIn_of _ (by decide +kernel)) ggX6_fewest_X6_isRank
set_option maxRecDepth 20000 in
theorem ggX6_fewest_X6_fewestTo : GoodIn wsX6_fewest wsX6_fewestTo := goodIn_r _ [24, 25, 26, 27, 28, 14, 29, 30, 31, 32, 4, 33, 34, 6, 7, 8, 9, 10, 11, 12, 13, 15, 16, 17, 35, 36, 37, 38, 39, 40, 41, 42, 43, 44, 45, 46, 47, 48, 49, 50, 51, 52, 53, 54, 55, 56, 57, 58, 59, 60, 61, 62, 63, 64, 65, 66, 67, 68, 69, 70, 71, 72, 73, 74, 75, 76, 77, 78, 79, 80, 81, 82, 83, 84, 85, 86, 87, 88, 89, 90, 91, 92, 93, 94, 95, 96, 102, 103, 104, 105, 106, 107, 108, 109, 110, 111, 112, 113, 114, 115, 116, 117, 118, 119, 120, 121, 122, 123, 124, 125, 126, 127, 128, 129, 130, 131] (by decide +kernel) (by decide +kernel)
set_option maxRecDepth 20000 in
theorem gX6_fewest_X6_fewestTo : GoodIn wsX6_fewest (wsV RX6 219 RX6 yX6_fewestTo wsX6_fewestTo) := goodIn_app (goodIn_of _ (by decide +kernel)) ggX6_fewest_X6_fewestTo
set_option maxRecDepth 20000 in
theorem ggX6_fewest_X6_bad : GoodIn wsX6_fewest wsX6_bad := goodIn_r _ [100, 101, 102, 103, 104, 105, 106, 107, 108, 109, 110, 111, 112, 113, 114, 115, 116, 117, 118, 119, 120, 121, 122, 123, 124, 125, 126, 127, 128, 129, 130, 131] (by decide +kernel) (by decide +kernel)
set_option maxRecDepth 20000 in
theorem gX6_fewest_X6_bad : GoodIn wsX6_fewest (wsV RX6 85 RX6 yX6_bad wsX6_bad) := goodIn_app (goodIn_of _ (by decide +kernel)) ggX6_fewest_X6_bad
set_option maxRecDepth 20000 in
theorem ggX6_till_X6_fewestTo : GoodIn wsX6_till wsX6_fewestTo := goodIn_r _ [5, 6, 7, 8, 9, 10, 11, 12, 13, 14, 4, 15, 16, 17, 18, 19, 20, 21, 22, 23, 24, 25, 26, 27, 28, 29, 30, 31, 32, 33, 34, 35, 36, 37, 38, 39, 40, 41, 42, 43, 44, 45, 46, 47, 48, 49, 50, 51, 52, 53, 54, 55, 56, 57, 58, 59, 60, 61, 62, 63, 64, 65, 66, 67, 68, 69, 70, 71, 72, 73, 74, 75, 76, 77, 78, 79, 80, 81, 82, 83, 84, 85, 86, 87, 88, 89, 95, 96, 97, 98, 99, 100, 101, 102, 103, 104, 105, 106, 107, 108, 109, 110, 111, 112, 113, 114, 115, 116, 117, 118, 119, 120, 121, 122, 123, 124] (by decide +kernel) (by decide +kernel)
set_option maxRecDepth 20000 in
theorem gX6_till_X6_fewestTo : GoodIn wsX6_till (wsV RX6 219 RX6 yX6_fewestTo wsX6_fewestTo) := goodIn_app (goodIn_of _ (by decide +kernel)) ggX6_till_X6_fewestTo
set_option maxRecDepth 20000 in
theorem ggX6_till_X6_bad : GoodIn wsX6_till wsX6_bad := goodIn_r _ [93, 94, 95, 96, 97, 98, 99, 100, 101, 102, 103, 104, 105, 106, 107, 108, 109, 110, 111, 112, 113, 114, 115, 116, 117, 118, 119, 120, 121, 122, 123, 124] (by decide +kernel) (by decide +kernel)
set_option maxRecDepth 20000 in
theorem gX6_till_X6_bad : GoodIn wsX6_till (wsV RX6 85 RX6 yX6_bad wsX6_bad) := goodIn_app (goodIn_of _ (by decide +kernel)) ggX6_till_X6_bad
set_option maxRecDepth 20000 in
theorem ggX6_isSo_X6_n : GoodIn wsX6_isSo wsX6_n := goodIn_r _ [9, 1, 27, 28, 29, 30, 31, 32, 33, 34, 35, 36, 37, 38, 39, 40, 41, 42, 43, 44, 45, 46, 47, 48, 49, 50, 51, 52, 53, 54, 55, 56] (by decide +kernel) (by decide +kernel)
set_option maxRecDepth 20000 in
theorem gX6_isSo_X6_n : GoodIn wsX6_isSo (wsV RX6 73 RX6 yX6_n wsX6_n) := goodIn_app (goodIn_of _ (by decide +kernel)) ggX6_isSo_X6_n
set_option maxRecDepth 20000 in
theorem ggX6_isSo_X6_seek : GoodIn wsX6_isSo wsX6_seek := goodIn_r _ [13, 4, 3, 1, 14, 2, 15, 16, 17, 8, 18, 5, 6, 7, 9, 19, 20, 21, 22, 23, 24, 25, 26, 27, 28, 29, 30, 31, 32, 33, 34, 35, 36, 37, 38, 39, 40, 41, 42, 43, 44, 45, 46, 47, 48, 49, 50, 51, 52, 53, 54, 55, 56] (by decide +kernel) (by decide +kernel)
set_option maxRecDepth 20000 in
theorem gX6_isSo_X6_seek : GoodIn wsX6_isSo (wsV RX6 162 RX6 yX6_seek wsX6_seek) := goodIn_app (goodIn_of _ (by decide +kernel)) ggX6_isSo_X6_seek
set_option maxRecDepth 20000 in
theorem ggX6_mayBe_X6_bad : GoodIn wsX6_mayBe wsX6_bad := goodIn_r _ [5, 6, 47, 48, 49, 50, 51, 52, 53, 54, 55, 56, 57, 58, 59, 60, 61, 62, 63, 64, 65, 66, 67, 68, 69, 70, 71, 72, 73, 74, 75, 76] (by decide +kernel) (by decide +kernel)
set_option maxRecDepth 20000 in
theorem gX6_mayBe_X6_bad : GoodIn wsX6_mayBe (wsV RX6 85 RX6 yX6_bad wsX6_bad) := goodIn_app (goodIn_of _ (by decide +kernel)) ggX6_mayBe_X6_bad
set_option maxRecDepth 20000 in
theorem ggX6_mayBe_X6_ways : GoodIn wsX6_mayBe wsX6_ways := goodIn_r _ [10, 11, 12, 13, 4, 14, 15, 16, 17, 18, 47, 48, 49, 50, 51, 52, 53, 54, 55, 56, 57, 58, 59, 60, 61, 62, 63, 64, 65, 66, 67, 68, 69, 70, 71, 72, 73, 74, 75, 76] (by decide +kernel) (by decide +kernel)
set_option maxRecDepth 20000 in
theorem gX6_mayBe_X6_ways : GoodIn wsX6_mayBe (wsV RX6 120 RX6 yX6_ways wsX6_ways) := goodIn_app (goodIn_of _ (by decide +kernel)) ggX6_mayBe_X6_ways
set_option maxRecDepth 20000 in
theorem ggX6_mayBe_X6_takeRank : GoodIn wsX6_mayBe wsX6_takeRank := goodIn_r _ [22, 23, 11, 12, 13, 4, 14, 15, 16, 17, 18, 47, 48, 49, 50, 51, 52, 53, 54, 55, 56, 57, 58, 59, 60, 61, 62, 63, 64, 65, 66, 67, 68, 69, 70, 71, 72, 73, 74, 75, 76] (by decide +kernel) (by decide +kernel)
set_option maxRecDepth 20000 in
theorem gX6_mayBe_X6_takeRank : GoodIn wsX6_mayBe (wsV RX6 123 RX6 yX6_takeRank wsX6_takeRank) := goodIn_app (goodIn_of _ (by decide +kernel)) ggX6_mayBe_X6_takeRank
set_option maxRecDepth 20000 in
theorem ggX6_mayBe_X6_isSo : GoodIn wsX6_mayBe wsX6_isSo := goodIn_r _ [27, 15, 23, 28, 29, 11, 12, 13, 4, 14, 30, 31, 32, 33, 34, 35, 36, 37, 38, 39, 40, 41, 42, 43, 44, 45, 46, 47, 48, 49, 50, 51, 52, 53, 54, 55, 56, 57, 58, 59, 60, 61, 62, 63, 64, 65, 66, 67, 68, 69, 70, 71, 72, 73, 74, 75, 76] (by decide +kernel) (by decide +kernel)
set_option maxRecDepth 20000 in
theorem gX6_mayBe_X6_isSo : GoodIn wsX6_mayBe (wsV RX6 222 RX6 yX6_isSo wsX6_isSo) := goodIn_app (goodIn_of _ (by decide +kernel)) ggX6_mayBe_X6_isSo
set_option maxRecDepth 20000 in
theorem ggX6_chance_X6_all : GoodIn wsX6_chance wsX6_all := goodIn_r _ [5, 6, 7, 8, 4, 9, 10, 68, 69, 70, 71, 72, 73, 74, 75, 76, 77, 78, 79, 80, 81, 82, 83, 84, 85, 86, 87, 88, 89, 90, 91, 92, 93, 94, 95, 96, 97] (by decide +kernel) (by decide +kernel)
set_option maxRecDepth 20000 in
theorem gX6_chance_X6_all : GoodIn wsX6_chance (wsV RX6 207 RX6 yX6_all wsX6_all) := goodIn_app (goodIn_of _ (by decide +kernel)) ggX6_chance_X6_all
set_option maxRecDepth 20000 in
theorem ggX6_chance_X6_in : GoodIn wsX6_chance wsX6_in := goodIn_r _ [13] (by decide +kernel) (by decide +kernel)
set_option maxRecDepth 20000 in
theorem gX6_chance_X6_in : GoodIn wsX6_chance (va_wsS RX6 77 yX6_in wsX6_in) := goodIn_app (goodIn_of _ (by decide +kernel)) ggX6_chance_X6_in
set_option maxRecDepth 20000 in
theorem ggX6_chance_X6_bad : GoodIn wsX6_chance wsX6_bad := goodIn_r _ [17, 18, 68, 69, 70, 71, 72, 73, 74, 75, 76, 77, 78, 79, 80, 81, 82, 83, 84, 85, 86, 87, 88, 89, 90, 91, 92, 93, 94, 95, 96, 97] (by decide +kernel) (by decide +kernel)
set_option maxRecDepth 20000 in
theorem gX6_chance_X6_bad : GoodIn wsX6_chance (wsV RX6 85 RX6 yX6_bad wsX6_bad) := goodIn_app (goodIn_of _ (by decide +kernel)) ggX6_chance_X6_bad
set_option maxRecDepth 20000 in
theorem ggX6_chance_X6_ways : GoodIn wsX6_chance wsX6_ways := goodIn_r _ [22, 6, 7, 8, 4, 9, 10, 23, 24, 25, 68, 69, 70, 71, 72, 73, 74, 75, 76, 77, 78, 79, 80, 81, 82, 83, 84, 85, 86, 87, 88, 89, 90, 91, 92, 93, 94, 95, 96, 97] (by decide +kernel) (by decide +kernel)
set_option maxRecDepth 20000 in
theorem gX6_chance_X6_ways : GoodIn wsX6_chance (wsV RX6 120 RX6 yX6_ways wsX6_ways) := goodIn_app (goodIn_of _ (by decide +kernel)) ggX6_chance_X6_ways
set_option maxRecDepth 20000 in
theorem ggX6_chance_X6_takeRank : GoodIn wsX6_chance wsX6_takeRank := goodIn_r _ [29, 30, 6, 7, 8, 4, 9, 10, 23, 24, 25, 68, 69, 70, 71, 72, 73, 74, 75, 76, 77, 78, 79, 80, 81, 82, 83, 84, 85, 86, 87, 88, 89, 90, 91, 92, 93, 94, 95, 96, 97] (by decide +kernel) (by decide +kernel)
set_option maxRecDepth 20000 in
theorem gX6_chance_X6_takeRank : GoodIn wsX6_chance (wsV RX6 123 RX6 yX6_takeRank wsX6_takeRank) := goodIn_app (goodIn_of _ (by decide +kernel)) ggX6_chance_X6_takeRank
set_option maxRecDepth 20000 in
theorem ggX6_chance_X6_isSo : GoodIn wsX6_chance wsX6_isSo := goodIn_r _ [34, 10, 30, 35, 36, 6, 7, 8, 4, 9, 37, 38, 39, 40, 41, 42, 43, 44, 45, 46, 47, 48, 49, 50, 51, 52, 53, 68, 69, 70, 71, 72, 73, 74, 75, 76, 77, 78, 79, 80, 81, 82, 83, 84, 85, 86, 87, 88, 89, 90, 91, 92, 93, 94, 95, 96, 97] (by decide +kernel) (by decide +kernel)
set_option maxRecDepth 20000 in
theorem gX6_chance_X6_isSo : GoodIn wsX6_chance (wsV RX6 222 RX6 yX6_isSo wsX6_isSo) := goodIn_app (goodIn_of _ (by decide +kernel)) ggX6_chance_X6_isSo
set_option maxRecDepth 20000 in
theorem ggX6_chance_X6_findsHand : GoodIn wsX6_chance wsX6_findsHand := goodIn_r _ [57, 35, 6, 7, 8, 4, 9, 10, 37, 38, 39, 40, 36, 41, 30, 42, 43, 44, 45, 46, 47, 48, 49, 50, 51, 52, 53, 68, 69, 70, 71, 72, 73, 74, 75, 76, 77, 78, 79, 80, 81, 82, 83, 84, 85, 86, 87, 88, 89, 90, 91, 92, 93, 94, 95, 96, 97] (by decide +kernel) (by decide +kernel)
set_option maxRecDepth 20000 in
theorem gX6_chance_X6_findsHand : GoodIn wsX6_chance (wsV RX6 171 RX6 yX6_findsHand wsX6_findsHand) := goodIn_app (goodIn_of _ (by decide +kernel)) ggX6_chance_X6_findsHand
set_option maxRecDepth 20000 in
theorem ggX6_chance_X6_no : GoodIn wsX6_chance wsX6_no := goodIn_r _ [61, 18, 68, 69, 70, 71, 72, 73, 74, 75, 76, 77, 78, 79, 80, 81, 82, 83, 84, 85, 86, 87, 88, 89, 90, 91, 92, 93, 94, 95, 96, 97] (by decide +kernel) (by decide +kernel)
set_option maxRecDepth 20000 in
theorem gX6_chance_X6_no : GoodIn wsX6_chance (wsV RX6 127 RX6 yX6_no wsX6_no) := goodIn_app (goodIn_of _ (by decide +kernel)) ggX6_chance_X6_no
set_option maxRecDepth 20000 in
theorem ggX6_chance_X6_tell : GoodIn wsX6_chance wsX6_tell := goodIn_r _ [65, 66, 67, 68, 69, 70, 71, 72, 73, 74, 75, 76, 77, 78, 79, 80, 81, 82, 83, 84, 85, 86, 87, 88, 89, 90, 91, 92, 93, 94, 95, 96, 97] (by decide +kernel) (by decide +kernel)
set_option maxRecDepth 20000 in
theorem gX6_chance_X6_tell : GoodIn wsX6_chance (wsV RX6 229 RX6 yX6_tell wsX6_tell) := goodIn_app (goodIn_of _ (by decide +kernel)) ggX6_chance_X6_tell
set_option maxRecDepth 20000 in
theorem ggX6_look_X6_ways : GoodIn wsX6_look wsX6_ways := goodIn_r _ [9, 10, 11, 12, 8, 13, 4, 14, 15, 16, 55, 56, 57, 58, 59, 60, 61, 62, 63, 64, 65, 66, 67, 68, 69, 70, 71, 72, 73, 74, 75, 76, 77, 78, 79, 80, 81, 82, 83, 84] (by decide +kernel) (by decide +kernel)
set_option maxRecDepth 20000 in
theorem gX6_look_X6_ways : GoodIn wsX6_look (wsV RX6 120 RX6 yX6_ways wsX6_ways) := goodIn_app (goodIn_of _ (by decide +kernel)) ggX6_look_X6_ways
set_option maxRecDepth 20000 in
theorem ggX6_look_X6_takeRank : GoodIn wsX6_look wsX6_takeRank := goodIn_r _ [20, 2, 10, 11, 12, 8, 13, 4, 14, 15, 16, 55, 56, 57, 58, 59, 60, 61, 62, 63, 64, 65, 66, 67, 68, 69, 70, 71, 72, 73, 74, 75, 76, 77, 78, 79, 80, 81, 82, 83, 84] (by decide +kernel) (by decide +kernel)
set_option maxRecDepth 20000 in
theorem gX6_look_X6_takeRank : GoodIn wsX6_look (wsV RX6 123 RX6 yX6_takeRank wsX6_takeRank) := goodIn_app (goodIn_of _ (by decide +kernel)) ggX6_look_X6_takeRank
set_option maxRecDepth 20000 in
theorem ggX6_look_X6_isSo : GoodIn wsX6_look wsX6_isSo := goodIn_r _ [24, 4, 2, 25, 26, 10, 11, 12, 8, 13, 27, 28, 29, 30, 31, 32, 33, 34, 35, 36, 37, 38, 39, 40, 41, 42, 43, 55, 56, 57, 58, 59, 60, 61, 62, 63, 64, 65, 66, 67, 68, 69, 70, 71, 72, 73, 74, 75, 76, 77, 78, 79, 80, 81, 82, 83, 84] (by decide +kernel) (by decide +kernel)
set_option maxRecDepth 20000 in
theorem gX6_look_X6_isSo : GoodIn wsX6_look (wsV RX6 222 RX6 yX6_isSo wsX6_isSo) := goodIn_app (goodIn_of _ (by decide +kernel)) ggX6_look_X6_isSo
set_option maxRecDepth 20000 in
theorem ggX6_look_X6_n : GoodIn wsX6_look wsX6_n := goodIn_r _ [13, 4, 55, 56, 57, 58, 59, 60, 61, 62, 63, 64, 65, 66, 67, 68, 69, 70, 71, 72, 73, 74, 75, 76, 77, 78, 79, 80, 81, 82, 83, 84] (by decide +kernel) (by decide +kernel)
set_option maxRecDepth 20000 in
theorem gX6_look_X6_n : GoodIn wsX6_look (wsV RX6 73 RX6 yX6_n wsX6_n) := goodIn_app (goodIn_of _ (by decide +kernel)) ggX6_look_X6_n
set_option maxRecDepth 20000 in
theorem ggX6_look_X6_no : GoodIn wsX6_look wsX6_no := goodIn_r _ [47, 48, 55, 56, 57, 58, 59, 60, 61, 62, 63, 64, 65, 66, 67, 68, 69, 70, 71, 72, 73, 74, 75, 76, 77, 78, 79, 80, 81, 82, 83, 84] (by decide +kernel) (by decide +kernel)
set_option maxRecDepth 20000 in
theorem gX6_look_X6_no : GoodIn wsX6_look (wsV RX6 127 RX6 yX6_no wsX6_no) := goodIn_app (goodIn_of _ (by decide +kernel)) ggX6_look_X6_no
set_option maxRecDepth 20000 in
theorem ggX6_look_X6_tell : GoodIn wsX6_look wsX6_tell := goodIn_r _ [52, 53, 54, 55, 56, 57, 58, 59, 60, 61, 62, 63, 64, 65, 66, 67, 68, 69, 70, 71, 72, 73, 74, 75, 76, 77, 78, 79, 80, 81, 82, 83, 84] (by decide +kernel) (by decide +kernel)
set_option maxRecDepth 20000 in
theorem gX6_look_X6_tell : GoodIn wsX6_look (wsV RX6 229 RX6 yX6_tell wsX6_tell) := goodIn_app (goodIn_of _ (by decide +kernel)) ggX6_look_X6_tell
set_option maxRecDepth 20000 in
theorem ggX6_tryRules_X6_n : GoodIn wsX6_tryRules wsX6_n := goodIn_r _ [7, 1, 41, 42, 43, 44, 45, 46, 47, 48, 49, 50, 51, 52, 53, 54, 55, 56, 57, 58, 59, 60, 61, 62, 63, 64, 65, 66, 67, 68, 69, 70] (by decide +kernel) (by decide +kernel)
set_option maxRecDepth 20000 in
theorem gX6_tryRules_X6_n : GoodIn wsX6_tryRules (wsV RX6 73 RX6 yX6_n wsX6_n) := goodIn_app (goodIn_of _ (by decide +kernel)) ggX6_tryRules_X6_n
set_option maxRecDepth 20000 in
theorem ggX6_tryRules_X6_findsHand : GoodIn wsX6_tryRules wsX6_findsHand := goodIn_r _ [11, 12, 3, 4, 5, 6, 7, 1, 13, 14, 15, 16, 17, 18, 19, 20, 21, 22, 23, 24, 25, 26, 27, 28, 29, 30, 31, 41, 42, 43, 44, 45, 46, 47, 48, 49, 50, 51, 52, 53, 54, 55, 56, 57, 58, 59, 60, 61, 62, 63, 64, 65, 66, 67, 68, 69, 70] (by decide +kernel) (by decide +kernel)
set_option maxRecDepth 20000 in
theorem gX6_tryRules_X6_findsHand : GoodIn wsX6_tryRules (wsV RX6 171 RX6 yX6_findsHand wsX6_findsHand) := goodIn_app (goodIn_of _ (by decide +kernel)) ggX6_tryRules_X6_findsHand
set_option maxRecDepth 20000 in
theorem ggX6_tryRules_X6_all : GoodIn wsX6_tryRules wsX6_all := goodIn_r _ [35, 3, 4, 5, 6, 7, 1, 41, 42, 43, 44, 45, 46, 47, 48, 49, 50, 51, 52, 53, 54, 55, 56, 57, 58, 59, 60, 61, 62, 63, 64, 65, 66, 67, 68, 69, 70] (by decide +kernel) (by decide +kernel)
set_option maxRecDepth 20000 in
theorem gX6_tryRules_X6_all : GoodIn wsX6_tryRules (wsV RX6 207 RX6 yX6_all wsX6_all) := goodIn_app (goodIn_of _ (by decide +kernel)) ggX6_tryRules_X6_all
set_option maxRecDepth 20000 in
theorem ggX6_tryRules_X6_giveRules : GoodIn wsX6_tryRules wsX6_giveRules := goodIn_r _ [39, 1, 40, 41, 42, 43, 44, 45, 46, 47, 48, 49, 50, 51, 52, 53, 54, 55, 56, 57, 58, 59, 60, 61, 62, 63, 64, 65, 66, 67, 68, 69, 70] (by decide +kernel) (by decide +kernel)
set_option maxRecDepth 20000 in
theorem gX6_tryRules_X6_giveRules : GoodIn wsX6_tryRules (wsV RX6 235 RX6 yX6_giveRules wsX6_giveRules) := goodIn_app (goodIn_of _ (by decide +kernel)) ggX6_tryRules_X6_giveRules
set_option maxRecDepth 20000 in
theorem ggX6_advice_X6_takeRules : GoodIn wsX6_advice wsX6_takeRules := goodIn_r _ [6, 7, 8, 75, 76, 77, 78, 79, 80, 81, 82, 83, 84, 85, 86, 87, 88, 89, 90, 91, 92, 93, 94, 95, 96, 97, 98, 99, 100, 101, 102, 103, 104] (by decide +kernel) (by decide +kernel)
set_option maxRecDepth 20000 in
theorem gX6_advice_X6_takeRules : GoodIn wsX6_advice (wsV RX6 238 RX6 yX6_takeRules wsX6_takeRules) := goodIn_app (goodIn_of _ (by decide +kernel)) ggX6_advice_X6_takeRules
set_option maxRecDepth 20000 in
theorem ggX6_advice_X6_ways : GoodIn wsX6_advice wsX6_ways := goodIn_r _ [12, 13, 14, 15, 5, 16, 8, 17, 18, 19, 75, 76, 77, 78, 79, 80, 81, 82, 83, 84, 85, 86, 87, 88, 89, 90, 91, 92, 93, 94, 95, 96, 97, 98, 99, 100, 101, 102, 103, 104] (by decide +kernel) (by decide +kernel)
set_option maxRecDepth 20000 in
theorem gX6_advice_X6_ways : GoodIn wsX6_advice (wsV RX6 120 RX6 yX6_ways wsX6_ways) := goodIn_app (goodIn_of _ (by decide +kernel)) ggX6_advice_X6_ways
set_option maxRecDepth 20000 in
theorem ggX6_advice_X6_takeRank : GoodIn wsX6_advice wsX6_takeRank := goodIn_r _ [23, 24, 13, 14, 15, 5, 16, 8, 17, 18, 19, 75, 76, 77, 78, 79, 80, 81, 82, 83, 84, 85, 86, 87, 88, 89, 90, 91, 92, 93, 94, 95, 96, 97, 98, 99, 100, 101, 102, 103, 104] (by decide +kernel) (by decide +kernel)
set_option maxRecDepth 20000 in
theorem gX6_advice_X6_takeRank : GoodIn wsX6_advice (wsV RX6 123 RX6 yX6_takeRank wsX6_takeRank) := goodIn_app (goodIn_of _ (by decide +kernel)) ggX6_advice_X6_takeRank
set_option maxRecDepth 20000 in
theorem ggX6_advice_X6_isSo : GoodIn wsX6_advice wsX6_isSo := goodIn_r _ [28, 8, 24, 29, 30, 13, 14, 15, 5, 16, 31, 32, 33, 34, 35, 36, 37, 38, 39, 40, 41, 42, 43, 44, 45, 46, 47, 75, 76, 77, 78, 79, 80, 81, 82, 83, 84, 85, 86, 87, 88, 89, 90, 91, 92, 93, 94, 95, 96, 97, 98, 99, 100, 101, 102, 103, 104] (by decide +kernel) (by decide +kernel)
set_option maxRecDepth 20000 in
theorem gX6_advice_X6_isSo : GoodIn wsX6_advice (wsV RX6 222 RX6 yX6_isSo wsX6_isSo) := goodIn_app (goodIn_of _ (by decide +kernel)) ggX6_advice_X6_isSo
set_option maxRecDepth 20000 in
theorem ggX6_advice_X6_tryRules : GoodIn wsX6_advice wsX6_tryRules := goodIn_r _ [51, 8, 1, 13, 14, 15, 5, 16, 52, 53, 54, 55, 29, 31, 32, 33, 34, 30, 35, 24, 36, 37, 38, 39, 40, 41, 42, 43, 44, 45, 46, 47, 56, 57, 58, 59, 60, 61, 62, 63, 7, 75, 76, 77, 78, 79, 80, 81, 82, 83, 84, 85, 86, 87, 88, 89, 90, 91, 92, 93, 94, 95, 96, 97, 98, 99, 100, 101, 102, 103, 104] (by decide +kernel) (by decide +kernel)
set_option maxRecDepth 20000 in
theorem gX6_advice_X6_tryRules : GoodIn wsX6_advice (wsV RX6 241 RX6 yX6_tryRules wsX6_tryRules) := goodIn_app (goodIn_of _ (by decide +kernel)) ggX6_advice_X6_tryRules
set_option maxRecDepth 20000 in
theorem ggX6_advice_X6_no : GoodIn wsX6_advice wsX6_no := goodIn_r _ [67, 68, 75, 76, 77, 78, 79, 80, 81, 82, 83, 84, 85, 86, 87, 88, 89, 90, 91, 92, 93, 94, 95, 96, 97, 98, 99, 100, 101, 102, 103, 104] (by decide +kernel) (by decide +kernel)
set_option maxRecDepth 20000 in
theorem gX6_advice_X6_no : GoodIn wsX6_advice (wsV RX6 127 RX6 yX6_no wsX6_no) := goodIn_app (goodIn_of _ (by decide +kernel)) ggX6_advice_X6_no
set_option maxRecDepth 20000 in
theorem ggX6_advice_X6_tell : GoodIn wsX6_advice wsX6_tell := goodIn_r _ [72, 73, 74, 75, 76, 77, 78, 79, 80, 81, 82, 83, 84, 85, 86, 87, 88, 89, 90, 91, 92, 93, 94, 95, 96, 97, 98, 99, 100, 101, 102, 103, 104] (by decide +kernel) (by decide +kernel)
set_option maxRecDepth 20000 in
theorem gX6_advice_X6_tell : GoodIn wsX6_advice (wsV RX6 229 RX6 yX6_tell wsX6_tell) := goodIn_app (goodIn_of _ (by decide +kernel)) ggX6_advice_X6_tell
set_option maxRecDepth 20000 in
theorem ggX6_worst_X6_in : GoodIn wsX6_worst wsX6_in := goodIn_r _ [5] (by decide +kernel) (by decide +kernel)
set_option maxRecDepth 20000 in
theorem gX6_worst_X6_in : GoodIn wsX6_worst (va_wsS RX6 77 yX6_in wsX6_in) := goodIn_app (goodIn_of _ (by decide +kernel)) ggX6_worst_X6_in
set_option maxRecDepth 20000 in
theorem ggX6_worst_X6_bad : GoodIn wsX6_worst wsX6_bad := goodIn_r _ [9, 10, 62, 63, 64, 65, 66, 67, 68, 69, 70, 71, 72, 73, 74, 75, 76, 77, 78, 79, 80, 81, 82, 83, 84, 85, 86, 87, 88, 89, 90, 91] (by decide +kernel) (by decide +kernel)
set_option maxRecDepth 20000 in
theorem gX6_worst_X6_bad : GoodIn wsX6_worst (wsV RX6 85 RX6 yX6_bad wsX6_bad) := goodIn_app (goodIn_of _ (by decide +kernel)) ggX6_worst_X6_bad
set_option maxRecDepth 20000 in
theorem ggX6_worst_X6_ways : GoodIn wsX6_worst wsX6_ways := goodIn_r _ [14, 15, 16, 17, 4, 18, 19, 20, 21, 22, 62, 63, 64, 65, 66, 67, 68, 69, 70, 71, 72, 73, 74, 75, 76, 77, 78, 79, 80, 81, 82, 83, 84, 85, 86, 87, 88, 89, 90, 91] (by decide +kernel) (by decide +kernel)
set_option maxRecDepth 20000 in
theorem gX6_worst_X6_ways : GoodIn wsX6_worst (wsV RX6 120 RX6 yX6_ways wsX6_ways) := goodIn_app (goodIn_of _ (by decide +kernel)) ggX6_worst_X6_ways
set_option maxRecDepth 20000 in
theorem ggX6_worst_X6_takeRank : GoodIn wsX6_worst wsX6_takeRank := goodIn_r _ [26, 27, 15, 16, 17, 4, 18, 19, 20, 21, 22, 62, 63, 64, 65, 66, 67, 68, 69, 70, 71, 72, 73, 74, 75, 76, 77, 78, 79, 80, 81, 82, 83, 84, 85, 86, 87, 88, 89, 90, 91] (by decide +kernel) (by decide +kernel)
set_option maxRecDepth 20000 in
theorem gX6_worst_X6_takeRank : GoodIn wsX6_worst (wsV RX6 123 RX6 yX6_takeRank wsX6_takeRank) := goodIn_app (goodIn_of _ (by decide +kernel)) ggX6_worst_X6_takeRank
set_option maxRecDepth 20000 in
theorem ggX6_worst_X6_isSo : GoodIn wsX6_worst wsX6_isSo := goodIn_r _ [31, 19, 27, 32, 33, 15, 16, 17, 4, 18, 34, 35, 36, 37, 38, 39, 40, 41, 42, 43, 44, 45, 46, 47, 48, 49, 50, 62, 63, 64, 65, 66, 67, 68, 69, 70, 71, 72, 73, 74, 75, 76, 77, 78, 79, 80, 81, 82, 83, 84, 85, 86, 87, 88, 89, 90, 91] (by decide +kernel) (by decide +kernel)
set_option maxRecDepth 20000 in
theorem gX6_worst_X6_isSo : GoodIn wsX6_worst (wsV RX6 222 RX6 yX6_isSo wsX6_isSo) := goodIn_app (goodIn_of _ (by decide +kernel)) ggX6_worst_X6_isSo
set_option maxRecDepth 20000 in
theorem ggX6_worst_X6_findsHand : GoodIn wsX6_worst wsX6_findsHand := goodIn_r _ [54, 32, 15, 16, 17, 4, 18, 19, 34, 35, 36, 37, 33, 38, 27, 39, 40, 41, 42, 43, 44, 45, 46, 47, 48, 49, 50, 62, 63, 64, 65, 66, 67, 68, 69, 70, 71, 72, 73, 74, 75, 76, 77, 78, 79, 80, 81, 82, 83, 84, 85, 86, 87, 88, 89, 90, 91] (by decide +kernel) (by decide +kernel)
set_option maxRecDepth 20000 in
theorem gX6_worst_X6_findsHand : GoodIn wsX6_worst (wsV RX6 171 RX6 yX6_findsHand wsX6_findsHand) := goodIn_app (goodIn_of _ (by decide +kernel)) ggX6_worst_X6_findsHand
set_option maxRecDepth 20000 in
theorem ggX6_worst_X6_bits : GoodIn wsX6_worst wsX6_bits := goodIn_r _ [57] (by decide +kernel) (by decide +kernel)
set_option maxRecDepth 20000 in
theorem gX6_worst_X6_bits : GoodIn wsX6_worst (va_wsS RX6 244 yX6_bits wsX6_bits) := goodIn_app (goodIn_of _ (by decide +kernel)) ggX6_worst_X6_bits
set_option maxRecDepth 20000 in
theorem ggX6_worst_X6_no : GoodIn wsX6_worst wsX6_no := goodIn_r _ [61, 10, 62, 63, 64, 65, 66, 67, 68, 69, 70, 71, 72, 73, 74, 75, 76, 77, 78, 79, 80, 81, 82, 83, 84, 85, 86, 87, 88, 89, 90, 91] (by decide +kernel) (by decide +kernel)
set_option maxRecDepth 20000 in
theorem gX6_worst_X6_no : GoodIn wsX6_worst (wsV RX6 127 RX6 yX6_no wsX6_no) := goodIn_app (goodIn_of _ (by decide +kernel)) ggX6_worst_X6_no
set_option maxRecDepth 20000 in
theorem ggX6_swaps_X6_n : GoodIn wsX6_swaps wsX6_n := goodIn_r _ [8, 2, 9, 10, 11, 12, 13, 14, 15, 16, 17, 18, 19, 20, 21, 22, 23, 24, 25, 26, 27, 28, 29, 30, 31, 32, 33, 34, 35, 36, 37, 38] (by decide +kernel) (by decide +kernel)
set_option maxRecDepth 20000 in
theorem gX6_swaps_X6_n : GoodIn wsX6_swaps (wsV RX6 73 RX6 yX6_n wsX6_n) := goodIn_app (goodIn_of _ (by decide +kernel)) ggX6_swaps_X6_n
set_option maxRecDepth 20000 in
theorem ggX6_mended_X6_ways : GoodIn wsX6_mended wsX6_ways := goodIn_r _ [6, 7, 8, 9, 5, 10, 11, 12, 13, 14, 52, 53, 54, 55, 56, 57, 58, 59, 60, 61, 62, 63, 64, 65, 66, 67, 68, 69, 70, 71, 72, 73, 74, 75, 76, 77, 78, 79, 80, 81] (by decide +kernel) (by decide +kernel)
set_option maxRecDepth 20000 in
theorem gX6_mended_X6_ways : GoodIn wsX6_mended (wsV RX6 120 RX6 yX6_ways wsX6_ways) := goodIn_app (goodIn_of _ (by decide +kernel)) ggX6_mended_X6_ways
set_option maxRecDepth 20000 in
theorem ggX6_mended_X6_takeRank : GoodIn wsX6_mended wsX6_takeRank := goodIn_r _ [18, 19, 7, 8, 9, 5, 10, 11, 12, 13, 14, 52, 53, 54, 55, 56, 57, 58, 59, 60, 61, 62, 63, 64, 65, 66, 67, 68, 69, 70, 71, 72, 73, 74, 75, 76, 77, 78, 79, 80, 81] (by decide +kernel) (by decide +kernel)
set_option maxRecDepth 20000 in
theorem gX6_mended_X6_takeRank : GoodIn wsX6_mended (wsV RX6 123 RX6 yX6_takeRank wsX6_takeRank) := goodIn_app (goodIn_of _ (by decide +kernel)) ggX6_mended_X6_takeRank
set_option maxRecDepth 20000 in
theorem ggX6_mended_X6_swaps : GoodIn wsX6_mended wsX6_swaps := goodIn_r _ [23, 24, 11, 19, 7, 8, 9, 5, 10, 52, 53, 54, 55, 56, 57, 58, 59, 60, 61, 62, 63, 64, 65, 66, 67, 68, 69, 70, 71, 72, 73, 74, 75, 76, 77, 78, 79, 80, 81] (by decide +kernel) (by decide +kernel)
set_option maxRecDepth 20000 in
theorem gX6_mended_X6_swaps : GoodIn wsX6_mended (wsV RX6 247 RX6 yX6_swaps wsX6_swaps) := goodIn_app (goodIn_of _ (by decide +kernel)) ggX6_mended_X6_swaps
set_option maxRecDepth 20000 in
theorem ggX6_mended_X6_findsHand : GoodIn wsX6_mended wsX6_findsHand := goodIn_r _ [28, 29, 7, 8, 9, 5, 10, 11, 30, 31, 32, 33, 34, 35, 19, 36, 37, 38, 39, 40, 41, 42, 43, 44, 45, 46, 47, 52, 53, 54, 55, 56, 57, 58, 59, 60, 61, 62, 63, 64, 65, 66, 67, 68, 69, 70, 71, 72, 73, 74, 75, 76, 77, 78, 79, 80, 81] (by decide +kernel) (by decide +kernel)
set_option maxRecDepth 20000 in
theorem gX6_mended_X6_findsHand : GoodIn wsX6_mended (wsV RX6 171 RX6 yX6_findsHand wsX6_findsHand) := goodIn_app (goodIn_of _ (by decide +kernel)) ggX6_mended_X6_findsHand
set_option maxRecDepth 20000 in
theorem ggX6_mended_X6_all : GoodIn wsX6_mended wsX6_all := goodIn_r _ [51, 7, 8, 9, 5, 10, 11, 52, 53, 54, 55, 56, 57, 58, 59, 60, 61, 62, 63, 64, 65, 66, 67, 68, 69, 70, 71, 72, 73, 74, 75, 76, 77, 78, 79, 80, 81] (by decide +kernel) (by decide +kernel)
set_option maxRecDepth 20000 in
theorem gX6_mended_X6_all : GoodIn wsX6_mended (wsV RX6 207 RX6 yX6_all wsX6_all) := goodIn_app (goodIn_of _ (by decide +kernel)) ggX6_mended_X6_all
set_option maxRecDepth 20000 in
theorem ggX6_third_X6_in : GoodIn wsX6_third wsX6_in := goodIn_r _ [4] (by decide +kernel) (by decide +kernel)
set_option maxRecDepth 20000 in
theorem gX6_third_X6_in : GoodIn wsX6_third (va_wsS RX6 77 yX6_in wsX6_in) := goodIn_app (goodIn_of _ (by decide +kernel)) ggX6_third_X6_in
set_option maxRecDepth 20000 in
theorem ggX6_third_X6_bad : GoodIn wsX6_third wsX6_bad := goodIn_r _ [8, 9, 50, 51, 52, 53, 54, 55, 56, 57, 58, 59, 60, 61, 62, 63, 64, 65, 66, 67, 68, 69, 70, 71, 72, 73, 74, 75, 76, 77, 78, 79] (by decide +kernel) (by decide +kernel)
set_option maxRecDepth 20000 in
theorem gX6_third_X6_bad : GoodIn wsX6_third (wsV RX6 85 RX6 yX6_bad wsX6_bad) := goodIn_app (goodIn_of _ (by decide +kernel)) ggX6_third_X6_bad
set_option maxRecDepth 20000 in
theorem ggX6_third_X6_takeNow : GoodIn wsX6_third wsX6_takeNow := goodIn_r _ [13, 14, 15, 16, 17, 18, 3, 19, 50, 51, 52, 53, 54, 55, 56, 57, 58, 59, 60, 61, 62, 63, 64, 65, 66, 67, 68, 69, 70, 71, 72, 73, 74, 75, 76, 77, 78, 79] (by decide +kernel) (by decide +kernel)
set_option maxRecDepth 20000 in
theorem gX6_third_X6_takeNow : GoodIn wsX6_third (wsV RX6 100 RX6 yX6_takeNow wsX6_takeNow) := goodIn_app (goodIn_of _ (by decide +kernel)) ggX6_third_X6_takeNow
set_option maxRecDepth 20000 in
theorem ggX6_third_X6_findsHand : GoodIn wsX6_third wsX6_findsHand := goodIn_r _ [23, 24, 16, 17, 18, 3, 19, 15, 25, 26, 27, 28, 29, 30, 14, 31, 32, 33, 34, 35, 36, 37, 38, 39, 40, 41, 42, 50, 51, 52, 53, 54, 55, 56, 57, 58, 59, 60, 61, 62, 63, 64, 65, 66, 67, 68, 69, 70, 71, 72, 73, 74, 75, 76, 77, 78, 79] (by decide +kernel) (by decide +kernel)
set_option maxRecDepth 20000 in
theorem gX6_third_X6_findsHand : GoodIn wsX6_third (wsV RX6 171 RX6 yX6_findsHand wsX6_findsHand) := goodIn_app (goodIn_of _ (by decide +kernel)) ggX6_third_X6_findsHand
set_option maxRecDepth 20000 in
theorem ggX6_third_X6_bits : GoodIn wsX6_third wsX6_bits := goodIn_r _ [45] (by decide +kernel) (by decide +kernel)
set_option maxRecDepth 20000 in
theorem gX6_third_X6_bits : GoodIn wsX6_third (va_wsS RX6 244 yX6_bits wsX6_bits) := goodIn_app (goodIn_of _ (by decide +kernel)) ggX6_third_X6_bits
set_option maxRecDepth 20000 in
theorem ggX6_third_X6_n : GoodIn wsX6_third wsX6_n := goodIn_r _ [19, 15, 50, 51, 52, 53, 54, 55, 56, 57, 58, 59, 60, 61, 62, 63, 64, 65, 66, 67, 68, 69, 70, 71, 72, 73, 74, 75, 76, 77, 78, 79] (by decide +kernel) (by decide +kernel)
set_option maxRecDepth 20000 in
theorem gX6_third_X6_n : GoodIn wsX6_third (wsV RX6 73 RX6 yX6_n wsX6_n) := goodIn_app (goodIn_of _ (by decide +kernel)) ggX6_third_X6_n
set_option maxRecDepth 20000 in
theorem ggX6_third_X6_swapHand : GoodIn wsX6_third wsX6_swapHand := goodIn_r _ [49, 14, 50, 51, 52, 53, 54, 55, 56, 57, 58, 59, 60, 61, 62, 63, 64, 65, 66, 67, 68, 69, 70, 71, 72, 73, 74, 75, 76, 77, 78, 79] (by decide +kernel) (by decide +kernel)
set_option maxRecDepth 20000 in
theorem gX6_third_X6_swapHand : GoodIn wsX6_third (wsV RX6 113 RX6 yX6_swapHand wsX6_swapHand) := goodIn_app (goodIn_of _ (by decide +kernel)) ggX6_third_X6_swapHand
set_option maxRecDepth 20000 in
theorem ggX6_layHand_X6_n : GoodIn wsX6_layHand wsX6_n := goodIn_r _ [10, 11, 16, 17, 18, 19, 20, 21, 22, 23, 24, 25, 26, 27, 28, 29, 30, 31, 32, 33, 34, 35, 36, 37, 38, 39, 40, 41, 42, 43, 44, 45] (by decide +kernel) (by decide +kernel)
set_option maxRecDepth 20000 in
theorem gX6_layHand_X6_n : GoodIn wsX6_layHand (wsV RX6 73 RX6 yX6_n wsX6_n) := goodIn_app (goodIn_of _ (by decide +kernel)) ggX6_layHand_X6_n
set_option maxRecDepth 20000 in
theorem ggX6_layHand_X6_swapHand : GoodIn wsX6_layHand wsX6_swapHand := goodIn_r _ [15, 1, 16, 17, 18, 19, 20, 21, 22, 23, 24, 25, 26, 27, 28, 29, 30, 31, 32, 33, 34, 35, 36, 37, 38, 39, 40, 41, 42, 43, 44, 45] (by decide +kernel) (by decide +kernel)
set_option maxRecDepth 20000 in
theorem gX6_layHand_X6_swapHand : GoodIn wsX6_layHand (wsV RX6 113 RX6 yX6_swapHand wsX6_swapHand) := goodIn_app (goodIn_of _ (by decide +kernel)) ggX6_layHand_X6_swapHand
set_option maxRecDepth 20000 in
theorem ggX6_isSeed_X6_in : GoodIn wsX6_isSeed wsX6_in := goodIn_r _ [5] (by decide +kernel) (by decide +kernel)
set_option maxRecDepth 20000 in
theorem gX6_isSeed_X6_in : GoodIn wsX6_isSeed (va_wsS RX6 77 yX6_in wsX6_in) := goodIn_app (goodIn_of _ (by decide +kernel)) ggX6_isSeed_X6_in
set_option maxRecDepth 20000 in
theorem ggX6_laid_X6_isSeed : GoodIn wsX6_laid wsX6_isSeed := goodIn_r _ [4, 5, 6, 7, 3, 8] (by decide +kernel) (by decide +kernel)
set_option maxRecDepth 20000 in
theorem gX6_laid_X6_isSeed : GoodIn wsX6_laid (va_wsS RX6 260 yX6_isSeed wsX6_isSeed) := goodIn_app (goodIn_of _ (by decide +kernel)) ggX6_laid_X6_isSeed
set_option maxRecDepth 20000 in
theorem ggX6_laid_X6_bad : GoodIn wsX6_laid wsX6_bad := goodIn_r _ [12, 13, 39, 40, 41, 42, 43, 44, 45, 46, 47, 48, 49, 50, 51, 52, 53, 54, 55, 56, 57, 58, 59, 60, 61, 62, 63, 64, 65, 66, 67, 68] (by decide +kernel) (by decide +kernel)
set_option maxRecDepth 20000 in
theorem gX6_laid_X6_bad : GoodIn wsX6_laid (wsV RX6 85 RX6 yX6_bad wsX6_bad) := goodIn_app (goodIn_of _ (by decide +kernel)) ggX6_laid_X6_bad
set_option maxRecDepth 20000 in
theorem ggX6_laid_X6_layHand : GoodIn wsX6_laid wsX6_layHand := goodIn_r _ [17, 18, 19, 20, 21, 22, 23, 24, 25, 3, 26, 27, 28, 29, 30, 31, 39, 40, 41, 42, 43, 44, 45, 46, 47, 48, 49, 50, 51, 52, 53, 54, 55, 56, 57, 58, 59, 60, 61, 62, 63, 64, 65, 66, 67, 68] (by decide +kernel) (by decide +kernel)
set_option maxRecDepth 20000 in
theorem gX6_laid_X6_layHand : GoodIn wsX6_laid (wsV RX6 263 RX6 yX6_layHand wsX6_layHand) := goodIn_app (goodIn_of _ (by decide +kernel)) ggX6_laid_X6_layHand
set_option maxRecDepth 20000 in
theorem ggX6_laid_X6_rankOf : GoodIn wsX6_laid wsX6_rankOf := goodIn_r _ [35, 18, 23, 24, 25, 3, 26, 27, 36, 37, 38, 39, 40, 41, 42, 43, 44, 45, 46, 47, 48, 49, 50, 51, 52, 53, 54, 55, 56, 57, 58, 59, 60, 61, 62, 63, 64, 65, 66, 67, 68] (by decide +kernel) (by decide +kernel)
set_option maxRecDepth 20000 in
theorem gX6_laid_X6_rankOf : GoodIn wsX6_laid (wsV RX6 103 RX6 yX6_rankOf wsX6_rankOf) := goodIn_app (goodIn_of _ (by decide +kernel)) ggX6_laid_X6_rankOf
