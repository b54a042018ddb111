set_option maxRecDepth 20000 in
theorem ggX5_back_X4_ringLength : GoodIn wsX5_back wsX4_ringLength := goodIn_r _ [7] (by decide +kernel) (by decide +kernel)
set_option maxRecDepth 20000 in
theorem gX5_back_X4_ringLength : GoodIn wsX5_back (va_wsS RX5 170 yX4_ringLength wsX4_ringLength) := goodIn_app (goodIn_of _ (by decide +kernel)) ggX5_back_X4_ringLength
set_option maxRecDepth 20000 in
theorem ggX5_back_X5_commonDivisor : GoodIn wsX5_back wsX5_commonDivisor := goodIn_r _ [11, 12, 13, 14, 15] (by decide +kernel) (by decide +kernel)
set_option maxRecDepth 20000 in
theorem gX5_back_X5_commonDivisor : GoodIn wsX5_back (va_wsS RX5 194 yX5_commonDivisor wsX5_commonDivisor) := goodIn_app (goodIn_of _ (by decide +kernel)) ggX5_back_X5_commonDivisor
set_option maxRecDepth 20000 in
theorem ggX5_undoes_X4_rankOf : GoodIn wsX5_undoes wsX4_rankOf := goodIn_r _ [8, 9, 10, 11, 12, 13, 14, 15] (by decide +kernel) (by decide +kernel)
set_option maxRecDepth 20000 in
theorem gX5_undoes_X4_rankOf : GoodIn wsX5_undoes (va_wsS RX5 191 yX4_rankOf wsX4_rankOf) := goodIn_app (goodIn_of _ (by decide +kernel)) ggX5_undoes_X4_rankOf
set_option maxRecDepth 20000 in
theorem ggX5_goesWith_X4_setToFirst : GoodIn wsX5_goesWith wsX4_setToFirst := goodIn_r _ [9] (by decide +kernel) (by decide +kernel)
set_option maxRecDepth 20000 in
theorem gX5_goesWith_X4_setToFirst : GoodIn wsX5_goesWith (va_wsS RX5 198 yX4_setToFirst wsX4_setToFirst) := goodIn_app (goodIn_of _ (by decide +kernel)) ggX5_goesWith_X4_setToFirst
set_option maxRecDepth 20000 in
theorem ggX5_goesWith_X4_areExchangeable : GoodIn wsX5_goesWith wsX4_areExchangeable := goodIn_r _ [12] (by decide +kernel) (by decide +kernel)
set_option maxRecDepth 20000 in
theorem gX5_goesWith_X4_areExchangeable : GoodIn wsX5_goesWith (va_wsS RX5 204 yX4_areExchangeable wsX4_areExchangeable) := goodIn_app (goodIn_of _ (by decide +kernel)) ggX5_goesWith_X4_areExchangeable
set_option maxRecDepth 20000 in
theorem ggX5_goesWith_X4_setToNext : GoodIn wsX5_goesWith wsX4_setToNext := goodIn_r _ [15, 16, 17, 8, 18] (by decide +kernel) (by decide +kernel)
set_option maxRecDepth 20000 in
theorem gX5_goesWith_X4_setToNext : GoodIn wsX5_goesWith (va_wsS RX5 208 yX4_setToNext wsX4_setToNext) := goodIn_app (goodIn_of _ (by decide +kernel)) ggX5_goesWith_X4_setToNext
set_option maxRecDepth 20000 in
theorem ggX5_roots_X5_refuseBad : GoodIn wsX5_roots wsX5_refuseBad := goodIn_r _ [10, 11, 28, 29, 30, 31, 32, 33, 34, 35, 36, 37, 38, 39, 40] (by decide +kernel) (by decide +kernel)
set_option maxRecDepth 20000 in
theorem gX5_roots_X5_refuseBad : GoodIn wsX5_roots (wsV RX5 65 RX5 yX5_refuseBad wsX5_refuseBad) := goodIn_app (goodIn_of _ (by decide +kernel)) ggX5_roots_X5_refuseBad
set_option maxRecDepth 20000 in
theorem ggX5_roots_X4_setToFirst : GoodIn wsX5_roots wsX4_setToFirst := goodIn_r _ [15] (by decide +kernel) (by decide +kernel)
set_option maxRecDepth 20000 in
theorem gX5_roots_X4_setToFirst : GoodIn wsX5_roots (va_wsS RX5 198 yX4_setToFirst wsX4_setToFirst) := goodIn_app (goodIn_of _ (by decide +kernel)) ggX5_roots_X4_setToFirst
set_option maxRecDepth 20000 in
theorem ggX5_roots_X4_isRoot : GoodIn wsX5_roots wsX4_isRoot := goodIn_r _ [18, 19, 20, 14, 21] (by decide +kernel) (by decide +kernel)
set_option maxRecDepth 20000 in
theorem gX5_roots_X4_isRoot : GoodIn wsX5_roots (va_wsS RX5 211 yX4_isRoot wsX4_isRoot) := goodIn_app (goodIn_of _ (by decide +kernel)) ggX5_roots_X4_isRoot
set_option maxRecDepth 20000 in
theorem ggX5_roots_X4_setToNext : GoodIn wsX5_roots wsX4_setToNext := goodIn_r _ [24, 25, 26, 14, 27] (by decide +kernel) (by decide +kernel)
set_option maxRecDepth 20000 in
theorem gX5_roots_X4_setToNext : GoodIn wsX5_roots (va_wsS RX5 208 yX4_setToNext wsX4_setToNext) := goodIn_app (goodIn_of _ (by decide +kernel)) ggX5_roots_X4_setToNext
set_option maxRecDepth 20000 in
theorem ggX5_alike_X5_isNoRank : GoodIn wsX5_alike wsX5_isNoRank := goodIn_r _ [9, 10, 1, 2, 29, 30, 31, 32, 33, 34, 35, 36, 37, 38, 39, 40, 41, 42, 43, 44, 45, 46, 47, 48, 49, 50, 51, 52, 53, 54, 55] (by decide +kernel) (by decide +kernel)
set_option maxRecDepth 20000 in
theorem gX5_alike_X5_isNoRank : GoodIn wsX5_alike (wsV RX5 105 RX5 yX5_isNoRank wsX5_isNoRank) := goodIn_app (goodIn_of _ (by decide +kernel)) ggX5_alike_X5_isNoRank
set_option maxRecDepth 20000 in
theorem ggX5_alike_X5_refuseBad : GoodIn wsX5_alike wsX5_refuseBad := goodIn_r _ [14, 15, 29, 30, 31, 32, 33, 34, 35, 36, 37, 38, 39, 40, 41] (by decide +kernel) (by decide +kernel)
set_option maxRecDepth 20000 in
theorem gX5_alike_X5_refuseBad : GoodIn wsX5_alike (wsV RX5 65 RX5 yX5_refuseBad wsX5_refuseBad) := goodIn_app (goodIn_of _ (by decide +kernel)) ggX5_alike_X5_refuseBad
set_option maxRecDepth 20000 in
theorem ggX5_alike_X4_setToRank : GoodIn wsX5_alike wsX4_setToRank := goodIn_r _ [19, 20, 21, 18, 22] (by decide +kernel) (by decide +kernel)
set_option maxRecDepth 20000 in
theorem gX5_alike_X4_setToRank : GoodIn wsX5_alike (va_wsS RX5 111 yX4_setToRank wsX4_setToRank) := goodIn_app (goodIn_of _ (by decide +kernel)) ggX5_alike_X4_setToRank
set_option maxRecDepth 20000 in
theorem ggX5_alike_X4_ringMark : GoodIn wsX5_alike wsX4_ringMark := goodIn_r _ [25, 26, 27, 18, 28] (by decide +kernel) (by decide +kernel)
set_option maxRecDepth 20000 in
theorem gX5_alike_X4_ringMark : GoodIn wsX5_alike (va_wsS RX5 215 yX4_ringMark wsX4_ringMark) := goodIn_app (goodIn_of _ (by decide +kernel)) ggX5_alike_X4_ringMark
set_option maxRecDepth 20000 in
theorem ggX5_even_X4_ringCount : GoodIn wsX5_even wsX4_ringCount := goodIn_r _ [7] (by decide +kernel) (by decide +kernel)
set_option maxRecDepth 20000 in
theorem gX5_even_X4_ringCount : GoodIn wsX5_even (va_wsS RX5 163 yX4_ringCount wsX4_ringCount) := goodIn_app (goodIn_of _ (by decide +kernel)) ggX5_even_X4_ringCount
set_option maxRecDepth 20000 in
theorem ggX5_move_X5_isNoRank : GoodIn wsX5_move wsX5_isNoRank := goodIn_r _ [7, 8, 1, 9, 27, 28, 29, 30, 31, 32, 33, 34, 35, 36, 37, 38, 39, 40, 41, 42, 43, 44, 45, 46, 47, 48, 49, 50, 51, 52, 53] (by decide +kernel) (by decide +kernel)
set_option maxRecDepth 20000 in
theorem gX5_move_X5_isNoRank : GoodIn wsX5_move (wsV RX5 105 RX5 yX5_isNoRank wsX5_isNoRank) := goodIn_app (goodIn_of _ (by decide +kernel)) ggX5_move_X5_isNoRank
set_option maxRecDepth 20000 in
theorem ggX5_move_X5_refuseBad : GoodIn wsX5_move wsX5_refuseBad := goodIn_r _ [13, 14, 27, 28, 29, 30, 31, 32, 33, 34, 35, 36, 37, 38, 39] (by decide +kernel) (by decide +kernel)
set_option maxRecDepth 20000 in
theorem gX5_move_X5_refuseBad : GoodIn wsX5_move (wsV RX5 65 RX5 yX5_refuseBad wsX5_refuseBad) := goodIn_app (goodIn_of _ (by decide +kernel)) ggX5_move_X5_refuseBad
set_option maxRecDepth 20000 in
theorem ggX5_move_X5_refuseFull : GoodIn wsX5_move wsX5_refuseFull := goodIn_r _ [18, 19, 27, 28, 29, 30, 31, 32, 33, 34, 35, 36, 37, 38, 39] (by decide +kernel) (by decide +kernel)
set_option maxRecDepth 20000 in
theorem gX5_move_X5_refuseFull : GoodIn wsX5_move (wsV RX5 132 RX5 yX5_refuseFull wsX5_refuseFull) := goodIn_app (goodIn_of _ (by decide +kernel)) ggX5_move_X5_refuseFull
set_option maxRecDepth 20000 in
theorem ggX5_move_X1_addMove : GoodIn wsX5_move wsX1_addMove := goodIn_r _ [24, 25, 26, 40, 41, 42, 43, 44, 45, 46, 47, 48, 49, 50, 51, 52, 53] (by decide +kernel) (by decide +kernel)
set_option maxRecDepth 20000 in
theorem gX5_move_X1_addMove : GoodIn wsX5_move (wsV RX5 222 RX1 yX1_addMove wsX1_addMove) := goodIn_app (goodIn_of _ (by decide +kernel)) ggX5_move_X1_addMove
set_option maxRecDepth 20000 in
theorem ggX5_drop_X5_refuseNo : GoodIn wsX5_drop wsX5_refuseNo := goodIn_r _ [7, 8, 9, 10, 11, 12, 13, 14, 15, 16, 17, 18, 19, 20, 21] (by decide +kernel) (by decide +kernel)
set_option maxRecDepth 20000 in
theorem gX5_drop_X5_refuseNo : GoodIn wsX5_drop (wsV RX5 117 RX5 yX5_refuseNo wsX5_refuseNo) := goodIn_app (goodIn_of _ (by decide +kernel)) ggX5_drop_X5_refuseNo
set_option maxRecDepth 20000 in
theorem ggX5_make_X5_refuseBad : GoodIn wsX5_make wsX5_refuseBad := goodIn_r _ [8, 9, 54, 55, 56, 57, 58, 59, 60, 61, 62, 63, 64, 65, 66] (by decide +kernel) (by decide +kernel)
set_option maxRecDepth 20000 in
theorem gX5_make_X5_refuseBad : GoodIn wsX5_make (wsV RX5 65 RX5 yX5_refuseBad wsX5_refuseBad) := goodIn_app (goodIn_of _ (by decide +kernel)) ggX5_make_X5_refuseBad
set_option maxRecDepth 20000 in
theorem ggX5_make_X1_makeMove : GoodIn wsX5_make wsX1_makeMove := goodIn_r _ [14, 15, 16, 17, 18, 19, 20, 21, 22, 23, 24, 25, 13, 26, 27, 28, 29, 30, 31, 32, 33, 34, 35, 36, 37, 38, 39, 40, 41, 42, 43, 44, 45, 46, 47, 48, 49, 50, 51, 52, 67, 68, 69, 70, 71, 72, 73, 74, 75, 76, 77, 78, 79, 80] (by decide +kernel) (by decide +kernel)
set_option maxRecDepth 20000 in
theorem gX5_make_X1_makeMove : GoodIn wsX5_make (wsV RX5 225 RX1 yX1_makeMove wsX1_makeMove) := goodIn_app (goodIn_of _ (by decide +kernel)) ggX5_make_X1_makeMove
set_option maxRecDepth 20000 in
theorem ggX5_make_X1_rankNow : GoodIn wsX5_make wsX1_rankNow := goodIn_r _ [32, 18, 15, 33, 34, 35, 36, 37, 38, 39, 40, 41, 42, 43, 67, 68, 69, 70, 71, 72, 73, 74, 75, 76, 77, 78, 79, 80] (by decide +kernel) (by decide +kernel)
set_option maxRecDepth 20000 in
theorem gX5_make_X1_rankNow : GoodIn wsX5_make (wsV RX5 108 RX1 yX1_rankNow wsX1_rankNow) := goodIn_app (goodIn_of _ (by decide +kernel)) ggX5_make_X1_rankNow
set_option maxRecDepth 20000 in
theorem ggX5_group_X5_reachNow : GoodIn wsX5_group wsX5_reachNow := goodIn_r _ [6, 7, 8, 9, 10, 11, 12, 13, 14, 15, 16, 17, 18, 19, 20, 21, 22, 23, 24, 25, 26, 27, 28, 29, 30, 31, 32, 33, 34, 35, 36, 37, 38, 39, 40, 41, 42, 43, 44, 45, 46, 47, 48, 49, 50, 51, 52, 53, 54, 55, 56, 57, 58, 59, 60, 61, 62, 63, 64, 65, 66, 67, 68, 69, 70, 71, 72, 73, 74, 75, 76, 77, 78, 79, 89, 90, 91, 92, 93, 94, 95, 96, 97, 98, 99, 100, 101, 80, 81, 82, 83, 84, 85, 86, 87, 88, 102, 103, 104, 105, 106, 107, 108, 109, 110, 111, 112, 113, 114, 115] (by decide +kernel) (by decide +kernel)
set_option maxRecDepth 20000 in
theorem gX5_group_X5_reachNow : GoodIn wsX5_group (wsV RX5 229 RX5 yX5_reachNow wsX5_reachNow) := goodIn_app (goodIn_of _ (by decide +kernel)) ggX5_group_X5_reachNow
set_option maxRecDepth 20000 in
theorem ggX5_fewest_X5_isNoRank : GoodIn wsX5_fewest wsX5_isNoRank := goodIn_r _ [5, 6, 7, 8, 94, 95, 96, 97, 98, 99, 100, 101, 102, 103, 104, 105, 106, 107, 108, 109, 110, 111, 112, 113, 114, 115, 116, 117, 118, 119, 120] (by decide +kernel) (by decide +kernel)
set_option maxRecDepth 20000 in
theorem gX5_fewest_X5_isNoRank : GoodIn wsX5_fewest (wsV RX5 105 RX5 yX5_isNoRank wsX5_isNoRank) := goodIn_app (goodIn_of _ (by decide +kernel)) ggX5_fewest_X5_isNoRank
set_option maxRecDepth 20000 in
theorem ggX5_fewest_X5_refuseQuestion : GoodIn wsX5_fewest wsX5_refuseQuestion := goodIn_r _ [12, 13, 94, 95, 96, 97, 98, 99, 100, 101, 102, 103, 104, 105, 106] (by decide +kernel) (by decide +kernel)
set_option maxRecDepth 20000 in
theorem gX5_fewest_X5_refuseQuestion : GoodIn wsX5_fewest (wsV RX5 167 RX5 yX5_refuseQuestion wsX5_refuseQuestion) := goodIn_app (goodIn_of _ (by decide +kernel)) ggX5_fewest_X5_refuseQuestion
set_option maxRecDepth 20000 in
theorem ggX5_fewest_X5_reachNow : GoodIn wsX5_fewest wsX5_reachNow := goodIn_r _ [17, 18, 19, 20, 21, 7, 22, 23, 24, 25, 26, 27, 28, 29, 30, 31, 32, 33, 34, 35, 36, 37, 38, 39, 40, 41, 42, 43, 44, 45, 46, 47, 48, 49, 50, 51, 52, 53, 54, 55, 56, 57, 58, 59, 60, 61, 62, 63, 64, 65, 66, 67, 68, 69, 70, 71, 72, 73, 74, 75, 76, 77, 78, 79, 80, 81, 82, 83, 84, 85, 86, 87, 88, 89, 94, 95, 96, 97, 98, 99, 100, 101, 102, 103, 104, 105, 106, 121, 122, 123, 124, 125, 126, 127, 128, 129, 107, 108, 109, 110, 111, 112, 113, 114, 115, 116, 117, 118, 119, 120] (by decide +kernel) (by decide +kernel)
set_option maxRecDepth 20000 in
theorem gX5_fewest_X5_reachNow : GoodIn wsX5_fewest (wsV RX5 229 RX5 yX5_reachNow wsX5_reachNow) := goodIn_app (goodIn_of _ (by decide +kernel)) ggX5_fewest_X5_reachNow
set_option maxRecDepth 20000 in
theorem ggX5_fewest_X0_moveTo : GoodIn wsX5_fewest wsX0_moveTo := goodIn_r _ [93, 31, 121, 122, 123, 124, 125, 126, 127, 128, 129] (by decide +kernel) (by decide +kernel)
set_option maxRecDepth 20000 in
theorem gX5_fewest_X0_moveTo : GoodIn wsX5_fewest (wsV RX5 236 RX0 yX0_moveTo wsX0_moveTo) := goodIn_app (goodIn_of _ (by decide +kernel)) ggX5_fewest_X0_moveTo
set_option maxRecDepth 20000 in
theorem ggX5_till_X5_refuseQuestion : GoodIn wsX5_till wsX5_refuseQuestion := goodIn_r _ [10, 11, 141, 142, 143, 144, 145, 146, 147, 148, 149, 150, 151, 152, 153] (by decide +kernel) (by decide +kernel)
set_option maxRecDepth 20000 in
theorem gX5_till_X5_refuseQuestion : GoodIn wsX5_till (wsV RX5 167 RX5 yX5_refuseQuestion wsX5_refuseQuestion) := goodIn_app (goodIn_of _ (by decide +kernel)) ggX5_till_X5_refuseQuestion
set_option maxRecDepth 20000 in
theorem ggX5_till_X5_reachNow : GoodIn wsX5_till wsX5_reachNow := goodIn_r _ [15, 16, 17, 18, 19, 4, 20, 21, 22, 23, 24, 25, 26, 27, 28, 29, 30, 31, 32, 33, 34, 35, 36, 37, 38, 39, 40, 41, 42, 43, 44, 45, 46, 47, 48, 49, 50, 51, 52, 53, 54, 55, 56, 57, 58, 59, 60, 61, 62, 63, 64, 65, 66, 67, 68, 69, 70, 71, 72, 73, 74, 75, 76, 77, 78, 79, 80, 81, 82, 83, 84, 85, 86, 87, 141, 142, 143, 144, 145, 146, 147, 148, 149, 150, 151, 152, 153, 132, 133, 134, 135, 136, 137, 138, 139, 140, 154, 155, 156, 157, 158, 159, 160, 161, 162, 163, 164, 165, 166, 167] (by decide +kernel) (by decide +kernel)
set_option maxRecDepth 20000 in
theorem gX5_till_X5_reachNow : GoodIn wsX5_till (wsV RX5 229 RX5 yX5_reachNow wsX5_reachNow) := goodIn_app (goodIn_of _ (by decide +kernel)) ggX5_till_X5_reachNow
set_option maxRecDepth 20000 in
theorem ggX5_till_X4_setToRank : GoodIn wsX5_till wsX4_setToRank := goodIn_r _ [72, 73, 74, 61, 75] (by decide +kernel) (by decide +kernel)
set_option maxRecDepth 20000 in
theorem gX5_till_X4_setToRank : GoodIn wsX5_till (va_wsS RX5 111 yX4_setToRank wsX4_setToRank) := goodIn_app (goodIn_of _ (by decide +kernel)) ggX5_till_X4_setToRank
set_option maxRecDepth 20000 in
theorem ggX5_till_X5_doAllFind : GoodIn wsX5_till wsX5_doAllFind := goodIn_r _ [92, 4, 5, 93, 94, 95, 9, 96, 97, 98, 99, 100, 101, 102, 103, 104, 105, 106, 107, 108, 109, 110, 111, 112, 113, 114, 115, 116, 117, 118, 119, 120, 121, 122, 123, 124, 125, 126, 127, 141, 142, 143, 144, 145, 146, 147, 148, 149, 150, 151, 152, 153, 154, 155, 156, 157, 158, 159, 160, 161, 162, 163, 164, 165, 166, 167, 168, 169, 170, 171] (by decide +kernel) (by decide +kernel)
set_option maxRecDepth 20000 in
theorem gX5_till_X5_doAllFind : GoodIn wsX5_till (wsV RX5 242 RX5 yX5_doAllFind wsX5_doAllFind) := goodIn_app (goodIn_of _ (by decide +kernel)) ggX5_till_X5_doAllFind
set_option maxRecDepth 20000 in
theorem ggX5_till_X0_moveTo : GoodIn wsX5_till wsX0_moveTo := goodIn_r _ [131, 29, 132, 133, 134, 135, 136, 137, 138, 139, 140] (by decide +kernel) (by decide +kernel)
set_option maxRecDepth 20000 in
theorem gX5_till_X0_moveTo : GoodIn wsX5_till (wsV RX5 236 RX0 yX0_moveTo wsX0_moveTo) := goodIn_app (goodIn_of _ (by decide +kernel)) ggX5_till_X0_moveTo
set_option maxRecDepth 20000 in
theorem ggX5_reachNow_X0_init : GoodIn wsX5_reachNow wsX0_init := goodIn_r _ [8, 9, 10, 11, 12, 13, 14, 15, 16, 17, 18, 19, 20, 21, 22, 87, 88, 89, 90, 91, 92, 93, 94, 95] (by decide +kernel) (by decide +kernel)
set_option maxRecDepth 20000 in
theorem gX5_reachNow_X0_init : GoodIn wsX5_reachNow (wsX0_init) := ggX5_reachNow_X0_init
set_option maxRecDepth 20000 in
theorem ggX5_reachNow_X0_spreadFrom : GoodIn wsX5_reachNow wsX0_spreadFrom := goodIn_r _ [26, 27, 20, 28, 21, 29, 22, 30, 31, 32, 33, 19, 15, 14, 13, 16, 17, 34, 35, 36, 4, 37, 38, 39, 40, 41, 42, 43, 44, 45, 46, 47, 48, 49, 50, 51, 52, 53, 54, 55, 56, 57, 58, 59, 60, 61, 62, 63, 64, 65, 66, 67, 68, 69, 70, 71, 72, 73, 96, 97, 98, 99, 100, 101, 102, 103, 104, 105, 106, 107, 108, 109, 87, 88, 89, 90, 91, 92, 93, 94, 95] (by decide +kernel) (by decide +kernel)
set_option maxRecDepth 20000 in
theorem gX5_reachNow_X0_spreadFrom : GoodIn wsX5_reachNow (wsV RX5 247 RX0 yX0_spreadFrom wsX0_spreadFrom) := goodIn_app (goodIn_of _ (by decide +kernel)) ggX5_reachNow_X0_spreadFrom
set_option maxRecDepth 20000 in
theorem ggX5_mayBe_X5_refuseQuestion : GoodIn wsX5_mayBe wsX5_refuseQuestion := goodIn_r _ [9, 10, 57, 58, 59, 60, 61, 62, 63, 64, 65, 66, 67, 68, 69] (by decide +kernel) (by decide +kernel)
set_option maxRecDepth 20000 in
theorem gX5_mayBe_X5_refuseQuestion : GoodIn wsX5_mayBe (wsV RX5 167 RX5 yX5_refuseQuestion wsX5_refuseQuestion) := goodIn_app (goodIn_of _ (by decide +kernel)) ggX5_mayBe_X5_refuseQuestion
set_option maxRecDepth 20000 in
theorem ggX5_mayBe_X4_setToFirst : GoodIn wsX5_mayBe wsX4_setToFirst := goodIn_r _ [14] (by decide +kernel) (by decide +kernel)
set_option maxRecDepth 20000 in
theorem gX5_mayBe_X4_setToFirst : GoodIn wsX5_mayBe (va_wsS RX5 198 yX4_setToFirst wsX4_setToFirst) := goodIn_app (goodIn_of _ (by decide +kernel)) ggX5_mayBe_X4_setToFirst
set_option maxRecDepth 20000 in
theorem ggX5_mayBe_X5_mayTrialBe : GoodIn wsX5_mayBe wsX5_mayTrialBe := goodIn_r _ [18, 1, 2, 19, 3, 20, 21, 22, 23, 24, 25, 26, 27, 28, 29, 30, 31, 32, 33, 34, 35, 36, 37, 38, 39, 40, 41, 42, 43, 44, 45, 46, 47, 48, 49, 50, 57, 58, 59, 60, 61, 62, 63, 64, 65, 66, 67, 68, 69, 70, 71, 72, 73, 74, 75, 76, 77, 78, 79, 80, 81, 82, 83, 84, 85, 86, 87] (by decide +kernel) (by decide +kernel)
set_option maxRecDepth 20000 in
theorem gX5_mayBe_X5_mayTrialBe : GoodIn wsX5_mayBe (wsV RX5 250 RX5 yX5_mayTrialBe wsX5_mayTrialBe) := goodIn_app (goodIn_of _ (by decide +kernel)) ggX5_mayBe_X5_mayTrialBe
set_option maxRecDepth 20000 in
theorem ggX5_mayBe_X4_setToNext : GoodIn wsX5_mayBe wsX4_setToNext := goodIn_r _ [53, 54, 55, 13, 56] (by decide +kernel) (by decide +kernel)
set_option maxRecDepth 20000 in
theorem gX5_mayBe_X4_setToNext : GoodIn wsX5_mayBe (va_wsS RX5 208 yX4_setToNext wsX4_setToNext) := goodIn_app (goodIn_of _ (by decide +kernel)) ggX5_mayBe_X4_setToNext
set_option maxRecDepth 20000 in
theorem ggX5_chance_X5_refuseBad : GoodIn wsX5_chance wsX5_refuseBad := goodIn_r _ [9, 10, 82, 83, 84, 85, 86, 87, 88, 89, 90, 91, 92, 93, 94] (by decide +kernel) (by decide +kernel)
set_option maxRecDepth 20000 in
theorem gX5_chance_X5_refuseBad : GoodIn wsX5_chance (wsV RX5 65 RX5 yX5_refuseBad wsX5_refuseBad) := goodIn_app (goodIn_of _ (by decide +kernel)) ggX5_chance_X5_refuseBad
set_option maxRecDepth 20000 in
theorem ggX5_chance_X4_setToFirst : GoodIn wsX5_chance wsX4_setToFirst := goodIn_r _ [14] (by decide +kernel) (by decide +kernel)
set_option maxRecDepth 20000 in
theorem gX5_chance_X4_setToFirst : GoodIn wsX5_chance (va_wsS RX5 198 yX4_setToFirst wsX4_setToFirst) := goodIn_app (goodIn_of _ (by decide +kernel)) ggX5_chance_X4_setToFirst
set_option maxRecDepth 20000 in
theorem ggX5_chance_X5_mayTrialBe : GoodIn wsX5_chance wsX5_mayTrialBe := goodIn_r _ [18, 1, 2, 19, 3, 20, 21, 22, 23, 24, 25, 26, 27, 28, 29, 30, 31, 32, 33, 34, 35, 36, 37, 38, 39, 40, 41, 42, 43, 44, 45, 46, 47, 48, 49, 50, 82, 83, 84, 85, 86, 87, 88, 89, 90, 91, 92, 93, 94, 95, 96, 97, 98, 99, 100, 101, 102, 103, 104, 105, 106, 107, 108, 109, 110, 111, 112] (by decide +kernel) (by decide +kernel)
set_option maxRecDepth 20000 in
theorem gX5_chance_X5_mayTrialBe : GoodIn wsX5_chance (wsV RX5 250 RX5 yX5_mayTrialBe wsX5_mayTrialBe) := goodIn_app (goodIn_of _ (by decide +kernel)) ggX5_chance_X5_mayTrialBe
set_option maxRecDepth 20000 in
theorem ggX5_chance_X5_doTheseFind : GoodIn wsX5_chance wsX5_doTheseFind := goodIn_r _ [54, 1, 2, 23, 55, 56, 57, 8, 58, 22, 24, 27, 28, 29, 30, 31, 32, 33, 34, 35, 36, 37, 38, 39, 40, 41, 42, 43, 44, 45, 46, 47, 48, 49, 50, 82, 83, 84, 85, 86, 87, 88, 89, 90, 91, 92, 93, 94, 95, 96, 97, 98, 99, 100, 101, 102, 103, 104, 105, 106, 107, 108, 109, 110, 111, 112] (by decide +kernel) (by decide +kernel)
set_option maxRecDepth 20000 in
theorem gX5_chance_X5_doTheseFind : GoodIn wsX5_chance (wsV RX5 254 RX5 yX5_doTheseFind wsX5_doTheseFind) := goodIn_app (goodIn_of _ (by decide +kernel)) ggX5_chance_X5_doTheseFind
set_option maxRecDepth 20000 in
theorem ggX5_chance_X4_setToNext : GoodIn wsX5_chance wsX4_setToNext := goodIn_r _ [61, 62, 63, 13, 64] (by decide +kernel) (by decide +kernel)
set_option maxRecDepth 20000 in
theorem gX5_chance_X4_setToNext : GoodIn wsX5_chance (va_wsS RX5 208 yX4_setToNext wsX4_setToNext) := goodIn_app (goodIn_of _ (by decide +kernel)) ggX5_chance_X4_setToNext
set_option maxRecDepth 20000 in
theorem ggX5_chance_X5_refuseNo : GoodIn wsX5_chance wsX5_refuseNo := goodIn_r _ [68, 69, 82, 83, 84, 85, 86, 87, 88, 89, 90, 91, 92, 93, 94] (by decide +kernel) (by decide +kernel)
set_option maxRecDepth 20000 in
theorem gX5_chance_X5_refuseNo : GoodIn wsX5_chance (wsV RX5 117 RX5 yX5_refuseNo wsX5_refuseNo) := goodIn_app (goodIn_of _ (by decide +kernel)) ggX5_chance_X5_refuseNo
set_option maxRecDepth 20000 in
theorem ggX5_chance_X5_setFraction : GoodIn wsX5_chance wsX5_setFraction := goodIn_r _ [73, 74, 75, 76, 77, 8, 78, 79, 80, 45, 81, 82, 83, 84, 85, 86, 87, 88, 89, 90, 91, 92, 93, 94] (by decide +kernel) (by decide +kernel)
set_option maxRecDepth 20000 in
theorem gX5_chance_X5_setFraction : GoodIn wsX5_chance (wsV RX5 258 RX5 yX5_setFraction wsX5_setFraction) := goodIn_app (goodIn_of _ (by decide +kernel)) ggX5_chance_X5_setFraction
set_option maxRecDepth 20000 in
theorem ggX5_look_X5_tallySlips : GoodIn wsX5_look wsX5_tallySlips := goodIn_r _ [8, 1, 2, 9, 10, 11, 12, 13, 14, 15, 16, 17, 18, 19, 20, 21, 22, 7, 23, 3, 24, 25, 26, 27, 28, 29, 30, 31, 32, 33, 34, 35, 36, 37, 38, 39, 40, 41, 42, 43, 44, 45, 46, 47, 48, 49, 50, 51, 52, 53, 54, 55, 56, 57, 58, 59, 60, 82, 83, 84, 85, 86, 87, 88, 89, 90, 91, 92, 93, 94, 95, 96, 97, 98, 99, 100, 101, 102, 103, 104, 105, 106, 107, 108, 109, 110, 111, 112] (by decide +kernel) (by decide +kernel)
set_option maxRecDepth 20000 in
theorem gX5_look_X5_tallySlips : GoodIn wsX5_look (wsV RX5 262 RX5 yX5_tallySlips wsX5_tallySlips) := goodIn_app (goodIn_of _ (by decide +kernel)) ggX5_look_X5_tallySlips
set_option maxRecDepth 20000 in
theorem ggX5_look_X5_refuseNo : GoodIn wsX5_look wsX5_refuseNo := goodIn_r _ [64, 65, 82, 83, 84, 85, 86, 87, 88, 89, 90, 91, 92, 93, 94] (by decide +kernel) (by decide +kernel)
set_option maxRecDepth 20000 in
theorem gX5_look_X5_refuseNo : GoodIn wsX5_look (wsV RX5 117 RX5 yX5_refuseNo wsX5_refuseNo) := goodIn_app (goodIn_of _ (by decide +kernel)) ggX5_look_X5_refuseNo
set_option maxRecDepth 20000 in
theorem ggX5_look_X5_sumOfSquares : GoodIn wsX5_look wsX5_sumOfSquares := goodIn_r _ [69, 1, 2, 9, 82, 83, 84, 85, 86, 87, 88, 89, 90, 91, 92, 93, 94, 95, 96, 97, 98, 99, 100, 101, 102, 103, 104, 105, 106, 107, 108] (by decide +kernel) (by decide +kernel)
set_option maxRecDepth 20000 in
theorem gX5_look_X5_sumOfSquares : GoodIn wsX5_look (wsV RX5 265 RX5 yX5_sumOfSquares wsX5_sumOfSquares) := goodIn_app (goodIn_of _ (by decide +kernel)) ggX5_look_X5_sumOfSquares
set_option maxRecDepth 20000 in
theorem ggX5_look_X5_setFraction : GoodIn wsX5_look wsX5_setFraction := goodIn_r _ [73, 74, 75, 76, 77, 7, 78, 79, 80, 49, 81, 82, 83, 84, 85, 86, 87, 88, 89, 90, 91, 92, 93, 94] (by decide +kernel) (by decide +kernel)
set_option maxRecDepth 20000 in
theorem gX5_look_X5_setFraction : GoodIn wsX5_look (wsV RX5 258 RX5 yX5_setFraction wsX5_setFraction) := goodIn_app (goodIn_of _ (by decide +kernel)) ggX5_look_X5_setFraction
set_option maxRecDepth 20000 in
theorem ggX5_tallySlips_J7_fill_53178 : GoodIn wsX5_tallySlips wsJ7_fill_53178 := goodIn_r _ [9] (by decide +kernel) (by decide +kernel)
set_option maxRecDepth 20000 in
theorem gX5_tallySlips_J7_fill_53178 : GoodIn wsX5_tallySlips (va_wsS RX5 142 yJ7_fill_53178 wsJ7_fill_53178) := goodIn_app (goodIn_of _ (by decide +kernel)) ggX5_tallySlips_J7_fill_53178
set_option maxRecDepth 20000 in
theorem ggX5_tallySlips_X4_setToFirst : GoodIn wsX5_tallySlips wsX4_setToFirst := goodIn_r _ [13] (by decide +kernel) (by decide +kernel)
set_option maxRecDepth 20000 in
theorem gX5_tallySlips_X4_setToFirst : GoodIn wsX5_tallySlips (va_wsS RX5 198 yX4_setToFirst wsX4_setToFirst) := goodIn_app (goodIn_of _ (by decide +kernel)) ggX5_tallySlips_X4_setToFirst
set_option maxRecDepth 20000 in
theorem ggX5_tallySlips_X5_mayTrialBe : GoodIn wsX5_tallySlips wsX5_mayTrialBe := goodIn_r _ [18, 1, 2, 19, 4, 20, 21, 22, 23, 24, 25, 26, 27, 28, 29, 30, 31, 32, 33, 34, 35, 36, 37, 38, 39, 40, 41, 42, 43, 44, 45, 46, 47, 48, 49, 50, 57, 58, 59, 60, 61, 62, 63, 64, 65, 66, 67, 68, 69, 70, 71, 72, 73, 74, 75, 76, 77, 78, 79, 80, 81, 82, 83, 84, 85, 86, 87] (by decide +kernel) (by decide +kernel)
set_option maxRecDepth 20000 in
theorem gX5_tallySlips_X5_mayTrialBe : GoodIn wsX5_tallySlips (wsV RX5 250 RX5 yX5_mayTrialBe wsX5_mayTrialBe) := goodIn_app (goodIn_of _ (by decide +kernel)) ggX5_tallySlips_X5_mayTrialBe
set_option maxRecDepth 20000 in
theorem ggX5_tallySlips_X4_setToNext : GoodIn wsX5_tallySlips wsX4_setToNext := goodIn_r _ [53, 54, 55, 12, 56] (by decide +kernel) (by decide +kernel)
set_option maxRecDepth 20000 in
theorem gX5_tallySlips_X4_setToNext : GoodIn wsX5_tallySlips (va_wsS RX5 208 yX4_setToNext wsX4_setToNext) := goodIn_app (goodIn_of _ (by decide +kernel)) ggX5_tallySlips_X4_setToNext
set_option maxRecDepth 20000 in
theorem ggX5_advice_X5_tallyRules : GoodIn wsX5_advice wsX5_tallyRules := goodIn_r _ [6, 7, 8, 1, 9, 10, 11, 12, 13, 14, 15, 16, 17, 18, 19, 20, 21, 5, 22, 23, 24, 25, 26, 27, 28, 29, 30, 31, 32, 33, 34, 35, 36, 37, 38, 39, 40, 41, 42, 43, 44, 45, 46, 47, 48, 49, 50, 51, 52, 53, 54, 55, 56, 57, 58, 59, 60, 61, 62, 63, 64, 65, 66, 67, 68, 86, 87, 88, 89, 90, 91, 92, 93, 94, 95, 96, 97, 98, 99, 100, 101, 102, 103, 104, 105, 106, 107, 108, 109, 110, 111, 112, 113, 114, 115, 116] (by decide +kernel) (by decide +kernel)
set_option maxRecDepth 20000 in
theorem gX5_advice_X5_tallyRules : GoodIn wsX5_advice (wsV RX5 269 RX5 yX5_tallyRules wsX5_tallyRules) := goodIn_app (goodIn_of _ (by decide +kernel)) ggX5_advice_X5_tallyRules
set_option maxRecDepth 20000 in
theorem ggX5_advice_X5_refuseNo : GoodIn wsX5_advice wsX5_refuseNo := goodIn_r _ [72, 73, 86, 87, 88, 89, 90, 91, 92, 93, 94, 95, 96, 97, 98] (by decide +kernel) (by decide +kernel)
set_option maxRecDepth 20000 in
theorem gX5_advice_X5_refuseNo : GoodIn wsX5_advice (wsV RX5 117 RX5 yX5_refuseNo wsX5_refuseNo) := goodIn_app (goodIn_of _ (by decide +kernel)) ggX5_advice_X5_refuseNo
set_option maxRecDepth 20000 in
theorem ggX5_advice_X5_setFraction : GoodIn wsX5_advice wsX5_setFraction := goodIn_r _ [77, 78, 79, 80, 81, 5, 82, 83, 84, 49, 85, 86, 87, 88, 89, 90, 91, 92, 93, 94, 95, 96, 97, 98] (by decide +kernel) (by decide +kernel)
set_option maxRecDepth 20000 in
theorem gX5_advice_X5_setFraction : GoodIn wsX5_advice (wsV RX5 258 RX5 yX5_setFraction wsX5_setFraction) := goodIn_app (goodIn_of _ (by decide +kernel)) ggX5_advice_X5_setFraction
set_option maxRecDepth 20000 in
theorem ggX5_tallyRules_J7_fill_53178 : GoodIn wsX5_tallyRules wsJ7_fill_53178 := goodIn_r _ [9] (by decide +kernel) (by decide +kernel)
set_option maxRecDepth 20000 in
theorem gX5_tallyRules_J7_fill_53178 : GoodIn wsX5_tallyRules (va_wsS RX5 142 yJ7_fill_53178 wsJ7_fill_53178) := goodIn_app (goodIn_of _ (by decide +kernel)) ggX5_tallyRules_J7_fill_53178
set_option maxRecDepth 20000 in
theorem ggX5_tallyRules_X4_setToFirst : GoodIn wsX5_tallyRules wsX4_setToFirst := goodIn_r _ [13] (by decide +kernel) (by decide +kernel)
set_option maxRecDepth 20000 in
theorem gX5_tallyRules_X4_setToFirst : GoodIn wsX5_tallyRules (va_wsS RX5 198 yX4_setToFirst wsX4_setToFirst) := goodIn_app (goodIn_of _ (by decide +kernel)) ggX5_tallyRules_X4_setToFirst
set_option maxRecDepth 20000 in
theorem ggX5_tallyRules_X5_mayTrialBe : GoodIn wsX5_tallyRules wsX5_mayTrialBe := goodIn_r _ [18, 1, 2, 19, 4, 20, 21, 22, 23, 24, 25, 26, 27, 28, 29, 30, 31, 32, 33, 34, 35, 36, 37, 38, 39, 40, 41, 42, 43, 44, 45, 46, 47, 48, 49, 50, 65, 66, 67, 68, 69, 70, 71, 72, 73, 74, 75, 76, 77, 78, 79, 80, 81, 82, 83, 84, 85, 86, 87, 88, 89, 90, 91, 92, 93, 94, 95] (by decide +kernel) (by decide +kernel)
set_option maxRecDepth 20000 in
theorem gX5_tallyRules_X5_mayTrialBe : GoodIn wsX5_tallyRules (wsV RX5 250 RX5 yX5_mayTrialBe wsX5_mayTrialBe) := goodIn_app (goodIn_of _ (by decide +kernel)) ggX5_tallyRules_X5_mayTrialBe
set_option maxRecDepth 20000 in
theorem ggX5_tallyRules_X5_doAllFindBy : GoodIn wsX5_tallyRules wsX5_doAllFindBy := goodIn_r _ [54, 1, 2, 55, 56, 57, 17, 58, 22, 24, 27, 28, 29, 30, 31, 32, 33, 34, 35, 36, 37, 38, 39, 40, 41, 42, 43, 44, 45, 46, 47, 48, 49, 50, 65, 66, 67, 68, 69, 70, 71, 72, 73, 74, 75, 76, 77, 78, 79, 80, 81, 82, 83, 84, 85, 86, 87, 88, 89, 90, 91, 92, 93, 94, 95] (by decide +kernel) (by decide +kernel)
set_option maxRecDepth 20000 in
theorem gX5_tallyRules_X5_doAllFindBy : GoodIn wsX5_tallyRules (wsV RX5 272 RX5 yX5_doAllFindBy wsX5_doAllFindBy) := goodIn_app (goodIn_of _ (by decide +kernel)) ggX5_tallyRules_X5_doAllFindBy
set_option maxRecDepth 20000 in
theorem ggX5_tallyRules_X4_setToNext : GoodIn wsX5_tallyRules wsX4_setToNext := goodIn_r _ [61, 62, 63, 12, 64] (by decide +kernel) (by decide +kernel)
set_option maxRecDepth 20000 in
theorem gX5_tallyRules_X4_setToNext : GoodIn wsX5_tallyRules (va_wsS RX5 208 yX4_setToNext wsX4_setToNext) := goodIn_app (goodIn_of _ (by decide +kernel)) ggX5_tallyRules_X4_setToNext
set_option maxRecDepth 20000 in
theorem ggX5_worst_X5_refuseBad : GoodIn wsX5_worst wsX5_refuseBad := goodIn_r _ [9, 10, 77, 78, 79, 80, 81, 82, 83, 84, 85, 86, 87, 88, 89] (by decide +kernel) (by decide +kernel)
set_option maxRecDepth 20000 in
theorem gX5_worst_X5_refuseBad : GoodIn wsX5_worst (wsV RX5 65 RX5 yX5_refuseBad wsX5_refuseBad) := goodIn_app (goodIn_of _ (by decide +kernel)) ggX5_worst_X5_refuseBad
set_option maxRecDepth 20000 in
theorem ggX5_worst_X4_setToFirst : GoodIn wsX5_worst wsX4_setToFirst := goodIn_r _ [14] (by decide +kernel) (by decide +kernel)
set_option maxRecDepth 20000 in
theorem gX5_worst_X4_setToFirst : GoodIn wsX5_worst (va_wsS RX5 198 yX4_setToFirst wsX4_setToFirst) := goodIn_app (goodIn_of _ (by decide +kernel)) ggX5_worst_X4_setToFirst
set_option maxRecDepth 20000 in
theorem ggX5_worst_X5_mayTrialBe : GoodIn wsX5_worst wsX5_mayTrialBe := goodIn_r _ [18, 1, 2, 19, 3, 20, 21, 22, 23, 24, 25, 26, 27, 28, 29, 30, 31, 32, 33, 34, 35, 36, 37, 38, 39, 40, 41, 42, 43, 44, 45, 46, 47, 48, 49, 50, 77, 78, 79, 80, 81, 82, 83, 84, 85, 86, 87, 88, 89, 90, 91, 92, 93, 94, 95, 96, 97, 98, 99, 100, 101, 102, 103, 104, 105, 106, 107] (by decide +kernel) (by decide +kernel)
set_option maxRecDepth 20000 in
theorem gX5_worst_X5_mayTrialBe : GoodIn wsX5_worst (wsV RX5 250 RX5 yX5_mayTrialBe wsX5_mayTrialBe) := goodIn_app (goodIn_of _ (by decide +kernel)) ggX5_worst_X5_mayTrialBe
set_option maxRecDepth 20000 in
theorem ggX5_worst_X5_findersIn : GoodIn wsX5_worst wsX5_findersIn := goodIn_r _ [54, 1, 2, 23, 55, 56, 57, 8, 58, 22, 24, 27, 28, 29, 30, 31, 32, 33, 34, 35, 36, 37, 38, 39, 40, 41, 42, 43, 44, 45, 46, 47, 48, 49, 50, 77, 78, 79, 80, 81, 82, 83, 84, 85, 86, 87, 88, 89, 90, 91, 92, 93, 94, 95, 96, 97, 98, 99, 100, 101, 102, 103, 104, 105, 106, 107] (by decide +kernel) (by decide +kernel)
set_option maxRecDepth 20000 in
theorem gX5_worst_X5_findersIn : GoodIn wsX5_worst (wsV RX5 184 RX5 yX5_findersIn wsX5_findersIn) := goodIn_app (goodIn_of _ (by decide +kernel)) ggX5_worst_X5_findersIn
set_option maxRecDepth 20000 in
theorem ggX5_worst_J6_bitCount_0f7a4 : GoodIn wsX5_worst wsJ6_bitCount_0f7a4 := goodIn_r _ [62, 63, 64, 65] (by decide +kernel) (by decide +kernel)
set_option maxRecDepth 20000 in
theorem gX5_worst_J6_bitCount_0f7a4 : GoodIn wsX5_worst (va_wsS RX5 275 yJ6_bitCount_0f7a4 wsJ6_bitCount_0f7a4) := goodIn_app (goodIn_of _ (by decide +kernel)) ggX5_worst_J6_bitCount_0f7a4
set_option maxRecDepth 20000 in
theorem ggX5_worst_X4_setToNext : GoodIn wsX5_worst wsX4_setToNext := goodIn_r _ [68, 69, 70, 13, 71] (by decide +kernel) (by decide +kernel)
set_option maxRecDepth 20000 in
theorem gX5_worst_X4_setToNext : GoodIn wsX5_worst (va_wsS RX5 208 yX4_setToNext wsX4_setToNext) := goodIn_app (goodIn_of _ (by decide +kernel)) ggX5_worst_X4_setToNext
set_option maxRecDepth 20000 in
theorem ggX5_worst_X5_refuseNo : GoodIn wsX5_worst wsX5_refuseNo := goodIn_r _ [75, 76, 77, 78, 79, 80, 81, 82, 83, 84, 85, 86, 87, 88, 89] (by decide +kernel) (by decide +kernel)
set_option maxRecDepth 20000 in
theorem gX5_worst_X5_refuseNo : GoodIn wsX5_worst (wsV RX5 117 RX5 yX5_refuseNo wsX5_refuseNo) := goodIn_app (goodIn_of _ (by decide +kernel)) ggX5_worst_X5_refuseNo
set_option maxRecDepth 20000 in
theorem ggX5_mended_X4_setToFirst : GoodIn wsX5_mended wsX4_setToFirst := goodIn_r _ [9] (by decide +kernel) (by decide +kernel)
set_option maxRecDepth 20000 in
theorem gX5_mended_X4_setToFirst : GoodIn wsX5_mended (va_wsS RX5 198 yX4_setToFirst wsX4_setToFirst) := goodIn_app (goodIn_of _ (by decide +kernel)) ggX5_mended_X4_setToFirst
set_option maxRecDepth 20000 in
theorem ggX5_mended_X5_doAllFind : GoodIn wsX5_mended wsX5_doAllFind := goodIn_r _ [14, 1, 2, 15, 16, 17, 13, 18, 19, 20, 21, 22, 23, 24, 25, 26, 27, 28, 29, 30, 31, 32, 33, 34, 35, 36, 37, 38, 39, 40, 41, 42, 43, 44, 45, 46, 47, 48, 49, 62, 63, 64, 65, 66, 67, 68, 69, 70, 71, 72, 73, 74, 75, 76, 77, 78, 79, 80, 81, 82, 83, 84, 85, 86, 87, 88, 89, 90, 91, 92] (by decide +kernel) (by decide +kernel)
set_option maxRecDepth 20000 in
theorem gX5_mended_X5_doAllFind : GoodIn wsX5_mended (wsV RX5 242 RX5 yX5_doAllFind wsX5_doAllFind) := goodIn_app (goodIn_of _ (by decide +kernel)) ggX5_mended_X5_doAllFind
set_option maxRecDepth 20000 in
theorem ggX5_mended_X4_swapsBetween : GoodIn wsX5_mended wsX4_swapsBetween := goodIn_r _ [52, 53, 54, 8, 55] (by decide +kernel) (by decide +kernel)
set_option maxRecDepth 20000 in
theorem gX5_mended_X4_swapsBetween : GoodIn wsX5_mended (va_wsS RX5 280 yX4_swapsBetween wsX4_swapsBetween) := goodIn_app (goodIn_of _ (by decide +kernel)) ggX5_mended_X4_swapsBetween
set_option maxRecDepth 20000 in
theorem ggX5_mended_X4_setToNext : GoodIn wsX5_mended wsX4_setToNext := goodIn_r _ [58, 59, 60, 8, 61] (by decide +kernel) (by decide +kernel)
set_option maxRecDepth 20000 in
theorem gX5_mended_X4_setToNext : GoodIn wsX5_mended (va_wsS RX5 208 yX4_setToNext wsX4_setToNext) := goodIn_app (goodIn_of _ (by decide +kernel)) ggX5_mended_X4_setToNext
set_option maxRecDepth 20000 in
theorem ggX5_third_X5_refuseBad : GoodIn wsX5_third wsX5_refuseBad := goodIn_r _ [13, 14, 61, 62, 63, 64, 65, 66, 67, 68, 69, 70, 71, 72, 73] (by decide +kernel) (by decide +kernel)
set_option maxRecDepth 20000 in
theorem gX5_third_X5_refuseBad : GoodIn wsX5_third (wsV RX5 65 RX5 yX5_refuseBad wsX5_refuseBad) := goodIn_app (goodIn_of _ (by decide +kernel)) ggX5_third_X5_refuseBad
set_option maxRecDepth 20000 in
theorem ggX5_third_X5_findersIn : GoodIn wsX5_third wsX5_findersIn := goodIn_r _ [18, 1, 2, 19, 20, 21, 22, 12, 23, 24, 25, 26, 27, 28, 29, 30, 31, 32, 33, 34, 35, 36, 37, 38, 39, 40, 41, 42, 43, 44, 45, 46, 47, 48, 49, 61, 62, 63, 64, 65, 66, 67, 68, 69, 70, 71, 72, 73, 74, 75, 76, 77, 78, 79, 80, 81, 82, 83, 84, 85, 86, 87, 88, 89, 90, 91] (by decide +kernel) (by decide +kernel)
set_option maxRecDepth 20000 in
theorem gX5_third_X5_findersIn : GoodIn wsX5_third (wsV RX5 184 RX5 yX5_findersIn wsX5_findersIn) := goodIn_app (goodIn_of _ (by decide +kernel)) ggX5_third_X5_findersIn
set_option maxRecDepth 20000 in
theorem ggX5_third_J6_bitCount_0f7a4 : GoodIn wsX5_third wsJ6_bitCount_0f7a4 := goodIn_r _ [53, 54, 55, 56] (by decide +kernel) (by decide +kernel)
set_option maxRecDepth 20000 in
theorem gX5_third_J6_bitCount_0f7a4 : GoodIn wsX5_third (va_wsS RX5 275 yJ6_bitCount_0f7a4 wsJ6_bitCount_0f7a4) := goodIn_app (goodIn_of _ (by decide +kernel)) ggX5_third_J6_bitCount_0f7a4
set_option maxRecDepth 20000 in
theorem ggX5_third_X4_exchange : GoodIn wsX5_third wsX4_exchange := goodIn_r _ [60] (by decide +kernel) (by decide +kernel)
set_option maxRecDepth 20000 in
theorem gX5_third_X4_exchange : GoodIn wsX5_third (va_wsS RX5 99 yX4_exchange wsX4_exchange) := goodIn_app (goodIn_of _ (by decide +kernel)) ggX5_third_X4_exchange
set_option maxRecDepth 20000 in
theorem ggX5_laid_X5_refuseBad : GoodIn wsX5_laid wsX5_refuseBad := goodIn_r _ [9, 10, 35, 36, 37, 38, 39, 40, 41, 42, 43, 44, 45, 46, 47] (by decide +kernel) (by decide +kernel)
set_option maxRecDepth 20000 in
theorem gX5_laid_X5_refuseBad : GoodIn wsX5_laid (wsV RX5 65 RX5 yX5_refuseBad wsX5_refuseBad) := goodIn_app (goodIn_of _ (by decide +kernel)) ggX5_laid_X5_refuseBad
set_option maxRecDepth 20000 in
theorem ggX5_laid_X4_setBySeed : GoodIn wsX5_laid wsX4_setBySeed := goodIn_r _ [14, 15, 16, 17, 18, 19, 20, 13, 21, 22, 23, 24] (by decide +kernel) (by decide +kernel)
set_option maxRecDepth 20000 in
theorem gX5_laid_X4_setBySeed : GoodIn wsX5_laid (va_wsS RX5 291 yX4_setBySeed wsX4_setBySeed) := goodIn_app (goodIn_of _ (by decide +kernel)) ggX5_laid_X4_setBySeed
set_option maxRecDepth 20000 in
theorem ggX5_laid_X4_rankOf : GoodIn wsX5_laid wsX4_rankOf := goodIn_r _ [27, 28, 29, 30, 31, 32, 33, 34] (by decide +kernel) (by decide +kernel)
set_option maxRecDepth 20000 in
theorem gX5_laid_X4_rankOf : GoodIn wsX5_laid (va_wsS RX5 191 yX4_rankOf wsX4_rankOf) := goodIn_app (goodIn_of _ (by decide +kernel)) ggX5_laid_X4_rankOf
set_option maxRecDepth 20000 in
theorem ggX5_lucky_X5_refuseBad : GoodIn wsX5_lucky wsX5_refuseBad := goodIn_r _ [9, 10, 64, 65, 66, 67, 68, 69, 70, 71, 72, 73, 74, 75, 76] (by decide +kernel) (by decide +kernel)
set_option maxRecDepth 20000 in
theorem gX5_lucky_X5_refuseBad : GoodIn wsX5_lucky (wsV RX5 65 RX5 yX5_refuseBad wsX5_refuseBad) := goodIn_app (goodIn_of _ (by decide +kernel)) ggX5_lucky_X5_refuseBad
set_option maxRecDepth 20000 in
theorem ggX5_lucky_X4_setBySeed : GoodIn wsX5_lucky wsX4_setBySeed := goodIn_r _ [14, 15, 16, 17, 18, 19, 20, 13, 21, 22, 23, 24] (by decide +kernel) (by decide +kernel)
set_option maxRecDepth 20000 in
theorem gX5_lucky_X4_setBySeed : GoodIn wsX5_lucky (va_wsS RX5 291 yX4_setBySeed wsX4_setBySeed) := goodIn_app (goodIn_of _ (by decide +kernel)) ggX5_lucky_X4_setBySeed
set_option maxRecDepth 20000 in
theorem ggX5_lucky_X5_doAllFind : GoodIn wsX5_lucky wsX5_doAllFind := goodIn_r _ [28, 3, 4, 29, 30, 31, 8, 32, 33, 34, 35, 36, 37, 38, 39, 40, 41, 42, 43, 44, 45, 46, 47, 48, 49, 50, 51, 52, 53, 54, 55, 56, 57, 58, 59, 60, 61, 62, 63, 64, 65, 66, 67, 68, 69, 70, 71, 72, 73, 74, 75, 76, 77, 78, 79, 80, 81, 82, 83, 84, 85, 86, 87, 88, 89, 90, 91, 92, 93, 94] (by decide +kernel) (by decide +kernel)
set_option maxRecDepth 20000 in
theorem gX5_lucky_X5_doAllFind : GoodIn wsX5_lucky (wsV RX5 242 RX5 yX5_doAllFind wsX5_doAllFind) := goodIn_app (goodIn_of _ (by decide +kernel)) ggX5_lucky_X5_doAllFind
set_option maxRecDepth 20000 in
theorem ggX5_part_X5_refuseBad : GoodIn wsX5_part wsX5_refuseBad := goodIn_r _ [7, 8, 9, 10, 11, 12, 13, 14, 15, 16, 17, 18, 19, 20, 21] (by decide +kernel) (by decide +kernel)
set_option maxRecDepth 20000 in
theorem gX5_part_X5_refuseBad : GoodIn wsX5_part (wsV RX5 65 RX5 yX5_refuseBad wsX5_refuseBad) := goodIn_app (goodIn_of _ (by decide +kernel)) ggX5_part_X5_refuseBad
set_option maxRecDepth 20000 in
theorem ggX5_image_X5_refuseBad : GoodIn wsX5_image wsX5_refuseBad := goodIn_r _ [10, 11, 53, 54, 55, 56, 57, 58, 59, 60, 61, 62, 63, 64, 65] (by decide +kernel) (by decide +kernel)
set_option maxRecDepth 20000 in
theorem gX5_image_X5_refuseBad : GoodIn wsX5_image (wsV RX5 65 RX5 yX5_refuseBad wsX5_refuseBad) := goodIn_app (goodIn_of _ (by decide +kernel)) ggX5_image_X5_refuseBad
set_option maxRecDepth 20000 in
theorem ggX5_image_X1_init : GoodIn wsX5_image wsX1_init := goodIn_r _ [14, 15, 16, 17, 18, 19, 20, 21, 22, 23, 24, 25, 26, 27, 28, 29, 4, 30, 31, 32, 33, 34, 35, 36, 37, 38, 39, 40, 41, 42, 43, 44, 66, 67, 68, 69, 70, 71, 72, 73, 74, 75, 76, 77, 78, 79] (by decide +kernel) (by decide +kernel)
set_option maxRecDepth 20000 in
theorem gX5_image_X1_init : GoodIn wsX5_image (wsX1_init) := ggX5_image_X1_init
set_option maxRecDepth 20000 in
theorem ggX5_image_X1_copyOf : GoodIn wsX5_image wsX1_copyOf := goodIn_r _ [48, 31, 32, 33, 19, 49, 50, 51, 52, 20, 21, 34, 22, 23, 35, 24, 36, 25, 66, 67, 68, 69, 70, 71, 72, 73, 74, 75, 76, 77, 78, 79] (by decide +kernel) (by decide +kernel)
set_option maxRecDepth 20000 in
theorem gX5_image_X1_copyOf : GoodIn wsX5_image (wsV RX5 159 RX1 yX1_copyOf wsX1_copyOf) := goodIn_app (goodIn_of _ (by decide +kernel)) ggX5_image_X1_copyOf
set_option maxRecDepth 20000 in
theorem ggX5_from_X5_refuseBad : GoodIn wsX5_from wsX5_refuseBad := goodIn_r _ [7, 8, 36, 37, 38, 39, 40, 41, 42, 43, 44, 45, 46, 47, 48] (by decide +kernel) (by decide +kernel)
set_option maxRecDepth 20000 in
theorem gX5_from_X5_refuseBad : GoodIn wsX5_from (wsV RX5 65 RX5 yX5_refuseBad wsX5_refuseBad) := goodIn_app (goodIn_of _ (by decide +kernel)) ggX5_from_X5_refuseBad
set_option maxRecDepth 20000 in
theorem ggX5_from_X5_refuseNo : GoodIn wsX5_from wsX5_refuseNo := goodIn_r _ [12, 13, 36, 37, 38, 39, 40, 41, 42, 43, 44, 45, 46, 47, 48] (by decide +kernel) (by decide +kernel)
set_option maxRecDepth 20000 in
theorem gX5_from_X5_refuseNo : GoodIn wsX5_from (wsV RX5 117 RX5 yX5_refuseNo wsX5_refuseNo) := goodIn_app (goodIn_of _ (by decide +kernel)) ggX5_from_X5_refuseNo
set_option maxRecDepth 20000 in
theorem ggX5_from_X1_copyOf : GoodIn wsX5_from wsX1_copyOf := goodIn_r _ [18, 19, 20, 21, 22, 23, 24, 25, 26, 27, 28, 29, 30, 31, 32, 33, 34, 35, 49, 50, 51, 52, 53, 54, 55, 56, 57, 58, 59, 60, 61, 62] (by decide +kernel) (by decide +kernel)
set_option maxRecDepth 20000 in
theorem gX5_from_X1_copyOf : GoodIn wsX5_from (wsV RX5 159 RX1 yX1_copyOf wsX1_copyOf) := goodIn_app (goodIn_of _ (by decide +kernel)) ggX5_from_X1_copyOf
set_option maxRecDepth 20000 in
theorem ggX5_status_X5_refuseBad : GoodIn wsX5_status wsX5_refuseBad := goodIn_r _ [8, 1, 9, 10, 11, 12, 13, 14, 15, 16, 17, 18, 19, 20, 21] (by decide +kernel) (by decide +kernel)
set_option maxRecDepth 20000 in
theorem gX5_status_X5_refuseBad : GoodIn wsX5_status (wsV RX5 65 RX5 yX5_refuseBad wsX5_refuseBad) := goodIn_app (goodIn_of _ (by decide +kernel)) ggX5_status_X5_refuseBad
set_option maxRecDepth 20000 in
theorem ggX5_count_X5_refuseBad : GoodIn wsX5_count wsX5_refuseBad := goodIn_r _ [5, 6, 27, 28, 29, 30, 31, 32, 33, 34, 35, 36, 37, 38, 39] (by decide +kernel) (by decide +kernel)
set_option maxRecDepth 20000 in
theorem gX5_count_X5_refuseBad : GoodIn wsX5_count (wsV RX5 65 RX5 yX5_refuseBad wsX5_refuseBad) := goodIn_app (goodIn_of _ (by decide +kernel)) ggX5_count_X5_refuseBad
set_option maxRecDepth 20000 in
theorem ggX5_count_X5_howMany : GoodIn wsX5_count wsX5_howMany := goodIn_r _ [10, 11, 12, 13, 14, 15, 16, 17, 18, 19, 20, 21, 22, 23, 24, 25, 26, 27, 28, 29, 30, 31, 32, 33, 34, 35, 36, 37, 38, 39, 40, 41, 42, 43, 44, 45, 46, 47, 48, 49, 50, 51, 52, 53, 54, 55, 56, 57, 58, 59] (by decide +kernel) (by decide +kernel)
set_option maxRecDepth 20000 in
theorem gX5_count_X5_howMany : GoodIn wsX5_count (wsV RX5 294 RX5 yX5_howMany wsX5_howMany) := goodIn_app (goodIn_of _ (by decide +kernel)) ggX5_count_X5_howMany
set_option maxRecDepth 20000 in
theorem ggX5_howMany_X1_knownCount : GoodIn wsX5_howMany wsX1_knownCount := goodIn_r _ [14, 15, 16, 30, 31, 32, 33, 34, 35, 36, 37, 38, 39, 40, 41, 42, 43] (by decide +kernel) (by decide +kernel)
set_option maxRecDepth 20000 in
theorem gX5_howMany_X1_knownCount : GoodIn wsX5_howMany (wsV RX5 139 RX1 yX1_knownCount wsX1_knownCount) := goodIn_app (goodIn_of _ (by decide +kernel)) ggX5_howMany_X1_knownCount
set_option maxRecDepth 20000 in
theorem ggX5_digest_X5_howMany : GoodIn wsX5_digest wsX5_howMany := goodIn_r _ [19, 3, 4, 20, 21, 8, 22, 23, 24, 11, 25, 26, 27, 28, 29, 30, 31, 32, 33, 34, 35, 36, 37, 38, 39, 40, 41, 42, 43, 44, 45, 46, 47, 48, 49, 50, 51, 52, 53, 54, 55, 56, 57, 58, 59, 60, 61, 62, 63, 64] (by decide +kernel) (by decide +kernel)
set_option maxRecDepth 20000 in
theorem gX5_digest_X5_howMany : GoodIn wsX5_digest (wsV RX5 294 RX5 yX5_howMany wsX5_howMany) := goodIn_app (goodIn_of _ (by decide +kernel)) ggX5_digest_X5_howMany
set_option maxRecDepth 20000 in
theorem ggX5_setFraction_X5_commonDivisor : GoodIn wsX5_setFraction wsX5_commonDivisor := goodIn_r _ [6, 7, 8, 9, 10] (by decide +kernel) (by decide +kernel)
set_option maxRecDepth 20000 in
theorem gX5_setFraction_X5_commonDivisor : GoodIn wsX5_setFraction (va_wsS RX5 194 yX5_commonDivisor wsX5_commonDivisor) := goodIn_app (goodIn_of _ (by decide +kernel)) ggX5_setFraction_X5_commonDivisor
set_option maxRecDepth 20000 in
theorem ggX5_doesFind_X2_seek : GoodIn wsX5_doesFind wsX2_seek := goodIn_r _ [8, 9, 10, 11, 12, 13, 14, 15, 16, 17, 7, 18, 19, 20, 21, 22, 23, 24, 25, 26, 27, 41, 42, 43, 44, 45, 46, 47, 48, 49, 50, 51, 52, 53, 54, 55, 56, 57, 58] (by decide +kernel) (by decide +kernel)
set_option maxRecDepth 20000 in
theorem gX5_doesFind_X2_seek : GoodIn wsX5_doesFind (wsV RX5 174 RX2 yX2_seek wsX2_seek) := goodIn_app (goodIn_of _ (by decide +kernel)) ggX5_doesFind_X2_seek
set_option maxRecDepth 20000 in
theorem ggX5_findersIn_X5_doesFind : GoodIn wsX5_findersIn wsX5_doesFind := goodIn_r _ [8, 9, 1, 10, 11, 12, 13, 14, 15, 16, 17, 18, 19, 20, 21, 22, 23, 24, 25, 26, 27, 28, 29, 30, 31, 32, 33, 34, 35, 36, 37, 38, 39, 40, 41, 42, 43, 44, 45, 46, 47, 62, 63, 64, 65, 48, 49, 50, 51, 52, 53, 54, 55, 56, 57, 58, 59, 60, 61] (by decide +kernel) (by decide +kernel)
set_option maxRecDepth 20000 in
theorem gX5_findersIn_X5_doesFind : GoodIn wsX5_findersIn (wsV RX5 319 RX5 yX5_doesFind wsX5_doesFind) := goodIn_app (goodIn_of _ (by decide +kernel)) ggX5_findersIn_X5_doesFind
set_option maxRecDepth 20000 in
theorem ggX5_doTheseFind_X5_doesFind : GoodIn wsX5_doTheseFind wsX5_doesFind := goodIn_r _ [8, 9, 1, 10, 11, 12, 13, 14, 15, 16, 17, 18, 19, 20, 21, 22, 23, 24, 25, 26, 27, 28, 29, 30, 31, 32, 33, 34, 35, 36, 37, 38, 39, 40, 41, 42, 43, 44, 45, 46, 47, 62, 63, 64, 65, 48, 49, 50, 51, 52, 53, 54, 55, 56, 57, 58, 59, 60, 61] (by decide +kernel) (by decide +kernel)
set_option maxRecDepth 20000 in
theorem gX5_doTheseFind_X5_doesFind : GoodIn wsX5_doTheseFind (wsV RX5 319 RX5 yX5_doesFind wsX5_doesFind) := goodIn_app (goodIn_of _ (by decide +kernel)) ggX5_doTheseFind_X5_doesFind
set_option maxRecDepth 20000 in
theorem ggX5_doAllFind_X5_doTheseFind : GoodIn wsX5_doAllFind wsX5_doTheseFind := goodIn_r _ [7, 1, 2, 8, 9, 10, 11, 6, 12, 13, 14, 15, 16, 17, 18, 19, 20, 21, 22, 23, 24, 25, 26, 27, 28, 29, 30, 31, 32, 33, 34, 35, 36, 37, 38, 39, 40, 41, 42, 43, 44, 45, 46, 47, 48, 49, 50, 51, 52, 53, 54, 55, 56, 57, 58, 59, 60, 61, 62, 63, 64, 65, 66, 67, 68, 69] (by decide +kernel) (by decide +kernel)
set_option maxRecDepth 20000 in
theorem gX5_doAllFind_X5_doTheseFind : GoodIn wsX5_doAllFind (wsV RX5 254 RX5 yX5_doTheseFind wsX5_doTheseFind) := goodIn_app (goodIn_of _ (by decide +kernel)) ggX5_doAllFind_X5_doTheseFind
