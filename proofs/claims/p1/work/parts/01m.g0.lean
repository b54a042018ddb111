set_option maxRecDepth 20000 in
theorem ggX0_isMadeFor_X1_rankNow : GoodIn wsX0_isMadeFor wsX1_rankNow := goodIn_r _ [12, 13, 14, 15, 16, 17, 18, 19, 20, 21, 22, 23, 24, 25, 35, 36, 37, 38, 39, 40, 41, 42, 43, 44, 45, 46, 47, 48] (by decide +kernel) (by decide +kernel)
set_option maxRecDepth 20000 in
theorem gX0_isMadeFor_X1_rankNow : GoodIn wsX0_isMadeFor (wsV RX0 50 RX1 yX1_rankNow wsX1_rankNow) := goodIn_app (goodIn_of _ (by decide +kernel)) ggX0_isMadeFor_X1_rankNow
set_option maxRecDepth 20000 in
theorem ggX0_spreadFrom_X0_isMadeFor : GoodIn wsX0_spreadFrom wsX0_isMadeFor := goodIn_r _ [21, 2, 1, 4, 3, 14, 6, 5, 22, 23, 24, 25, 26, 27, 28, 29, 30, 31, 32, 33, 34, 35, 36, 37, 38, 39, 72, 73, 74, 75, 76, 77, 78, 79, 80, 58, 59, 60, 61, 62, 63, 64, 65, 66, 67, 68, 69, 70, 71] (by decide +kernel) (by decide +kernel)
set_option maxRecDepth 20000 in
theorem gX0_spreadFrom_X0_isMadeFor : GoodIn wsX0_spreadFrom (wsV RX0 57 RX0 yX0_isMadeFor wsX0_isMadeFor) := goodIn_app (goodIn_of _ (by decide +kernel)) ggX0_spreadFrom_X0_isMadeFor
set_option maxRecDepth 20000 in
theorem ggX0_spreadFrom_X4_setToRank : GoodIn wsX0_spreadFrom wsX4_setToRank := goodIn_r _ [42, 43, 44, 31, 45] (by decide +kernel) (by decide +kernel)
set_option maxRecDepth 20000 in
theorem gX0_spreadFrom_X4_setToRank : GoodIn wsX0_spreadFrom (va_wsS RX0 67 yX4_setToRank wsX4_setToRank) := goodIn_app (goodIn_of _ (by decide +kernel)) ggX0_spreadFrom_X4_setToRank
set_option maxRecDepth 20000 in
theorem ggX0_spreadFrom_J7_fill_53178 : GoodIn wsX0_spreadFrom wsJ7_fill_53178 := goodIn_r _ [49] (by decide +kernel) (by decide +kernel)
set_option maxRecDepth 20000 in
theorem gX0_spreadFrom_J7_fill_53178 : GoodIn wsX0_spreadFrom (va_wsS RX0 73 yJ7_fill_53178 wsJ7_fill_53178) := goodIn_app (goodIn_of _ (by decide +kernel)) ggX0_spreadFrom_J7_fill_53178
set_option maxRecDepth 20000 in
theorem ggX0_spreadFrom_X1_rankNow : GoodIn wsX0_spreadFrom wsX1_rankNow := goodIn_r _ [26, 27, 28, 29, 30, 31, 32, 33, 34, 35, 36, 37, 38, 39, 58, 59, 60, 61, 62, 63, 64, 65, 66, 67, 68, 69, 70, 71] (by decide +kernel) (by decide +kernel)
set_option maxRecDepth 20000 in
theorem gX0_spreadFrom_X1_rankNow : GoodIn wsX0_spreadFrom (wsV RX0 50 RX1 yX1_rankNow wsX1_rankNow) := goodIn_app (goodIn_of _ (by decide +kernel)) ggX0_spreadFrom_X1_rankNow
set_option maxRecDepth 20000 in
theorem ggX0_spreadFrom_X0_add : GoodIn wsX0_spreadFrom wsX0_add := goodIn_r _ [53, 12, 13, 14, 72, 73, 74, 75, 76, 77, 78, 79, 80] (by decide +kernel) (by decide +kernel)
set_option maxRecDepth 20000 in
theorem gX0_spreadFrom_X0_add : GoodIn wsX0_spreadFrom (wsV RX0 79 RX0 yX0_add wsX0_add) := goodIn_app (goodIn_of _ (by decide +kernel)) ggX0_spreadFrom_X0_add
set_option maxRecDepth 20000 in
theorem ggX0_spreadFrom_X4_setMoved : GoodIn wsX0_spreadFrom wsX4_setMoved := goodIn_r _ [56] (by decide +kernel) (by decide +kernel)
set_option maxRecDepth 20000 in
theorem gX0_spreadFrom_X4_setMoved : GoodIn wsX0_spreadFrom (va_wsS RX0 83 yX4_setMoved wsX4_setMoved) := goodIn_app (goodIn_of _ (by decide +kernel)) ggX0_spreadFrom_X4_setMoved
set_option maxRecDepth 20000 in
theorem ggX0_spreadFrom_X4_rankOf : GoodIn wsX0_spreadFrom wsX4_rankOf := goodIn_r _ [32, 33, 34, 35, 36, 37, 38, 39] (by decide +kernel) (by decide +kernel)
set_option maxRecDepth 20000 in
theorem gX0_spreadFrom_X4_rankOf : GoodIn wsX0_spreadFrom (va_wsS RX0 87 yX4_rankOf wsX4_rankOf) := goodIn_app (goodIn_of _ (by decide +kernel)) ggX0_spreadFrom_X4_rankOf
set_option maxRecDepth 20000 in
theorem ggX1_init_X1_setAsAtFirst : GoodIn wsX1_init wsX1_setAsAtFirst := goodIn_r _ [17, 18, 19, 20, 5, 6, 7, 21, 22, 23, 24, 25, 26, 27, 28, 29, 30, 31, 32, 33, 34, 35, 36, 37, 38, 39, 40, 41, 42, 43, 44, 45] (by decide +kernel) (by decide +kernel)
set_option maxRecDepth 20000 in
theorem gX1_init_X1_setAsAtFirst : GoodIn wsX1_init (wsV RX1 36 RX1 yX1_setAsAtFirst wsX1_setAsAtFirst) := goodIn_app (goodIn_of _ (by decide +kernel)) ggX1_init_X1_setAsAtFirst
set_option maxRecDepth 20000 in
theorem ggX1_setAsAtFirst_X4_setToFirst : GoodIn wsX1_setAsAtFirst wsX4_setToFirst := goodIn_r _ [13] (by decide +kernel) (by decide +kernel)
set_option maxRecDepth 20000 in
theorem gX1_setAsAtFirst_X4_setToFirst : GoodIn wsX1_setAsAtFirst (va_wsS RX1 50 yX4_setToFirst wsX4_setToFirst) := goodIn_app (goodIn_of _ (by decide +kernel)) ggX1_setAsAtFirst_X4_setToFirst
set_option maxRecDepth 20000 in
theorem ggX1_setAsAtFirst_J7_fill_53178 : GoodIn wsX1_setAsAtFirst wsJ7_fill_53178 := goodIn_r _ [17] (by decide +kernel) (by decide +kernel)
set_option maxRecDepth 20000 in
theorem gX1_setAsAtFirst_J7_fill_53178 : GoodIn wsX1_setAsAtFirst (va_wsS RX1 56 yJ7_fill_53178 wsJ7_fill_53178) := goodIn_app (goodIn_of _ (by decide +kernel)) ggX1_setAsAtFirst_J7_fill_53178
set_option maxRecDepth 20000 in
theorem ggX1_rankNow_X4_rankOf : GoodIn wsX1_rankNow wsX4_rankOf := goodIn_r _ [6, 7, 8, 9, 10, 11, 12, 13] (by decide +kernel) (by decide +kernel)
set_option maxRecDepth 20000 in
theorem gX1_rankNow_X4_rankOf : GoodIn wsX1_rankNow (va_wsS RX1 76 yX4_rankOf wsX4_rankOf) := goodIn_app (goodIn_of _ (by decide +kernel)) ggX1_rankNow_X4_rankOf
set_option maxRecDepth 20000 in
theorem ggX1_keepPast_X1_rankNow : GoodIn wsX1_keepPast wsX1_rankNow := goodIn_r _ [11, 12, 13, 14, 15, 16, 17, 18, 19, 20, 21, 22, 23, 24, 25, 26, 27, 28, 29, 30, 31, 32, 33, 34, 35, 36, 37, 38] (by decide +kernel) (by decide +kernel)
set_option maxRecDepth 20000 in
theorem gX1_keepPast_X1_rankNow : GoodIn wsX1_keepPast (wsV RX1 80 RX1 yX1_rankNow wsX1_rankNow) := goodIn_app (goodIn_of _ (by decide +kernel)) ggX1_keepPast_X1_rankNow
set_option maxRecDepth 20000 in
theorem ggX1_goBack_X4_setToRank : GoodIn wsX1_goBack wsX4_setToRank := goodIn_r _ [8, 9, 10, 7, 11] (by decide +kernel) (by decide +kernel)
set_option maxRecDepth 20000 in
theorem gX1_goBack_X4_setToRank : GoodIn wsX1_goBack (va_wsS RX1 84 yX4_setToRank wsX4_setToRank) := goodIn_app (goodIn_of _ (by decide +kernel)) ggX1_goBack_X4_setToRank
set_option maxRecDepth 20000 in
theorem ggX1_makeMove_X1_keepPast : GoodIn wsX1_makeMove wsX1_keepPast := goodIn_r _ [13, 14, 15, 5, 6, 7, 8, 16, 17, 18, 12, 19, 4, 1, 20, 21, 22, 23, 24, 25, 26, 27, 28, 29, 30, 40, 41, 42, 43, 44, 45, 46, 47, 48, 49, 50, 51, 52, 53] (by decide +kernel) (by decide +kernel)
set_option maxRecDepth 20000 in
theorem gX1_makeMove_X1_keepPast : GoodIn wsX1_makeMove (wsV RX1 88 RX1 yX1_keepPast wsX1_keepPast) := goodIn_app (goodIn_of _ (by decide +kernel)) ggX1_makeMove_X1_keepPast
set_option maxRecDepth 20000 in
theorem ggX1_makeMove_X4_setToRank : GoodIn wsX1_makeMove wsX4_setToRank := goodIn_r _ [33, 34, 35, 22, 36] (by decide +kernel) (by decide +kernel)
set_option maxRecDepth 20000 in
theorem gX1_makeMove_X4_setToRank : GoodIn wsX1_makeMove (va_wsS RX1 84 yX4_setToRank wsX4_setToRank) := goodIn_app (goodIn_of _ (by decide +kernel)) ggX1_makeMove_X4_setToRank
set_option maxRecDepth 20000 in
theorem ggX1_makeMove_X4_setMoved : GoodIn wsX1_makeMove wsX4_setMoved := goodIn_r _ [39] (by decide +kernel) (by decide +kernel)
set_option maxRecDepth 20000 in
theorem gX1_makeMove_X4_setMoved : GoodIn wsX1_makeMove (va_wsS RX1 91 yX4_setMoved wsX4_setMoved) := goodIn_app (goodIn_of _ (by decide +kernel)) ggX1_makeMove_X4_setMoved
set_option maxRecDepth 20000 in
theorem ggX2_seek_X2_nextBox : GoodIn wsX2_seek wsX2_nextBox := goodIn_r _ [11, 5, 1, 12, 13, 14, 15, 16, 17, 18, 19, 10, 20, 3, 25, 26, 27, 28, 29, 30, 31, 32, 33, 34, 35, 36, 37, 38, 21, 22, 23, 24] (by decide +kernel) (by decide +kernel)
set_option maxRecDepth 20000 in
theorem gX2_seek_X2_nextBox : GoodIn wsX2_seek (wsV RX2 34 RX2 yX2_nextBox wsX2_nextBox) := goodIn_app (goodIn_of _ (by decide +kernel)) ggX2_seek_X2_nextBox
set_option maxRecDepth 20000 in
theorem ggX2_nextBox_X2_closedFrom : GoodIn wsX2_nextBox wsX2_closedFrom := goodIn_r _ [12, 13, 28, 29, 30, 31] (by decide +kernel) (by decide +kernel)
set_option maxRecDepth 20000 in
theorem gX2_nextBox_X2_closedFrom : GoodIn wsX2_nextBox (wsV RX2 41 RX2 yX2_closedFrom wsX2_closedFrom) := goodIn_app (goodIn_of _ (by decide +kernel)) ggX2_nextBox_X2_closedFrom
set_option maxRecDepth 20000 in
theorem ggX3_tellItems_X3_toNextToken : GoodIn wsX3_tellItems wsX3_toNextToken := goodIn_r _ [8, 1, 9, 10, 3, 2, 11, 12, 7, 13, 14, 15, 16, 17, 18, 19, 20, 21, 22, 23, 24, 25, 26, 154, 155, 156, 157, 158, 159] (by decide +kernel) (by decide +kernel)
set_option maxRecDepth 20000 in
theorem gX3_tellItems_X3_toNextToken : GoodIn wsX3_tellItems (wsV RX3 31 RX3 yX3_toNextToken wsX3_toNextToken) := goodIn_app (goodIn_of _ (by decide +kernel)) ggX3_tellItems_X3_toNextToken
set_option maxRecDepth 20000 in
theorem ggX3_tellItems_X3_takeItem : GoodIn wsX3_tellItems wsX3_takeItem := goodIn_r _ [30, 2, 22, 31, 32, 33, 7, 34, 35, 36, 37, 38, 39, 40, 41, 1, 3, 10, 42, 43, 44, 45, 46, 47, 48, 49, 50, 51, 52, 53, 54, 55, 56, 57, 58, 59, 60, 61, 62, 63, 64, 65, 66, 67, 68, 69, 70, 71, 72, 73, 74, 75, 76, 77, 78, 79, 80, 81, 82, 83, 84, 85, 86, 87, 88, 89, 90, 91, 92, 93, 94, 95, 4, 5, 6, 8, 9, 11, 12, 13, 14, 15, 16, 17, 18, 19, 20, 21, 23, 24, 25, 26, 96, 97, 98, 99, 100, 101, 102, 103, 104, 105, 106, 107, 108, 109, 110, 111, 112, 113, 114, 115, 116, 117, 118, 119, 120, 121, 122, 123, 124, 125, 126, 127, 128, 129, 130, 131, 132, 133, 134, 135, 136, 137, 138, 139, 140, 141, 142, 143, 144, 145, 146, 147, 148, 149, 150, 151, 152, 153, 154, 155, 156, 157, 158, 159, 160, 161, 162, 163, 164, 165, 166, 167, 168, 169, 170, 171, 172, 173] (by decide +kernel) (by decide +kernel)
set_option maxRecDepth 20000 in
theorem gX3_tellItems_X3_takeItem : GoodIn wsX3_tellItems (wsV RX3 34 RX3 yX3_takeItem wsX3_takeItem) := goodIn_app (goodIn_of _ (by decide +kernel)) ggX3_tellItems_X3_takeItem
set_option maxRecDepth 20000 in
theorem ggX3_takeItem_X3_wordNow : GoodIn wsX3_takeItem wsX3_wordNow := goodIn_r _ [7, 8, 9, 6, 10, 11, 12, 13, 14, 15, 16, 17, 18, 19, 20, 21, 22, 23, 24, 25, 26, 27, 28, 29, 30, 31, 32, 33, 34, 35, 36, 37, 38, 39, 40, 41, 42, 43, 44, 45, 46, 47, 48, 49, 50, 51, 52, 53, 54, 55, 56, 57, 58, 59, 60, 61, 62, 63, 64, 65, 66, 150, 151, 152, 153, 154, 155] (by decide +kernel) (by decide +kernel)
set_option maxRecDepth 20000 in
theorem gX3_takeItem_X3_wordNow : GoodIn wsX3_takeItem (wsV RX3 38 RX3 yX3_wordNow wsX3_wordNow) := goodIn_app (goodIn_of _ (by decide +kernel)) ggX3_takeItem_X3_wordNow
set_option maxRecDepth 20000 in
theorem ggX3_takeItem_X3_hasPlace : GoodIn wsX3_takeItem wsX3_hasPlace := goodIn_r _ [69, 70, 71, 156, 157, 158, 159, 160, 161, 162, 163, 164, 165, 166, 167, 168, 169] (by decide +kernel) (by decide +kernel)
set_option maxRecDepth 20000 in
theorem gX3_takeItem_X3_hasPlace : GoodIn wsX3_takeItem (va_wsS RX3 42 yX3_hasPlace wsX3_hasPlace) := goodIn_app (goodIn_of _ (by decide +kernel)) ggX3_takeItem_X3_hasPlace
set_option maxRecDepth 20000 in
theorem ggX3_takeItem_X3_toNextToken : GoodIn wsX3_takeItem wsX3_toNextToken := goodIn_r _ [75, 15, 76, 17, 16, 1, 77, 78, 6, 79, 80, 81, 82, 83, 84, 85, 86, 87, 2, 88, 89, 90, 91, 150, 151, 152, 153, 154, 155] (by decide +kernel) (by decide +kernel)
set_option maxRecDepth 20000 in
theorem gX3_takeItem_X3_toNextToken : GoodIn wsX3_takeItem (wsV RX3 31 RX3 yX3_toNextToken wsX3_toNextToken) := goodIn_app (goodIn_of _ (by decide +kernel)) ggX3_takeItem_X3_toNextToken
set_option maxRecDepth 20000 in
theorem ggX3_takeItem_X3_isFirstDue : GoodIn wsX3_takeItem wsX3_isFirstDue := goodIn_r _ [94, 95, 96, 156, 157, 158, 159, 160, 161, 162, 163, 164, 165, 166, 167, 168, 169] (by decide +kernel) (by decide +kernel)
set_option maxRecDepth 20000 in
theorem gX3_takeItem_X3_isFirstDue : GoodIn wsX3_takeItem (va_wsS RX3 46 yX3_isFirstDue wsX3_isFirstDue) := goodIn_app (goodIn_of _ (by decide +kernel)) ggX3_takeItem_X3_isFirstDue
set_option maxRecDepth 20000 in
theorem ggX3_takeItem_X3_hasTwoNumbers : GoodIn wsX3_takeItem wsX3_hasTwoNumbers := goodIn_r _ [99] (by decide +kernel) (by decide +kernel)
set_option maxRecDepth 20000 in
theorem gX3_takeItem_X3_hasTwoNumbers : GoodIn wsX3_takeItem (va_wsS RX3 50 yX3_hasTwoNumbers wsX3_hasTwoNumbers) := goodIn_app (goodIn_of _ (by decide +kernel)) ggX3_takeItem_X3_hasTwoNumbers
set_option maxRecDepth 20000 in
theorem ggX3_takeItem_X3_isSecondDue : GoodIn wsX3_takeItem wsX3_isSecondDue := goodIn_r _ [102, 95, 103, 104, 105, 106, 107, 108, 109, 156, 157, 158, 159, 160, 161, 162, 163, 164, 165, 166, 167, 168, 169] (by decide +kernel) (by decide +kernel)
set_option maxRecDepth 20000 in
theorem gX3_takeItem_X3_isSecondDue : GoodIn wsX3_takeItem (va_wsS RX3 54 yX3_isSecondDue wsX3_isSecondDue) := goodIn_app (goodIn_of _ (by decide +kernel)) ggX3_takeItem_X3_isSecondDue
set_option maxRecDepth 20000 in
theorem ggX3_takeItem_X3_takeEffect : GoodIn wsX3_takeItem wsX3_takeEffect := goodIn_r _ [112, 95, 88, 89, 90, 91, 113, 114, 115, 116, 96, 117, 118, 119, 106, 120, 108, 121, 122, 123, 109, 124, 125, 126, 127, 128, 129, 130, 131, 132, 133, 134, 135, 136, 137, 138, 139, 140, 141, 142, 143, 144, 145, 146, 147, 148, 149, 156, 157, 158, 159, 160, 161, 162, 163, 164, 165, 166, 167, 168, 169] (by decide +kernel) (by decide +kernel)
set_option maxRecDepth 20000 in
theorem gX3_takeItem_X3_takeEffect : GoodIn wsX3_takeItem (va_wsS RX3 58 yX3_takeEffect wsX3_takeEffect) := goodIn_app (goodIn_of _ (by decide +kernel)) ggX3_takeItem_X3_takeEffect
set_option maxRecDepth 20000 in
theorem ggX3_wordNow_X3_wordAt : GoodIn wsX3_wordNow wsX3_wordAt := goodIn_r _ [4] (by decide +kernel) (by decide +kernel)
set_option maxRecDepth 20000 in
theorem gX3_wordNow_X3_wordAt : GoodIn wsX3_wordNow (va_wsS RX3 80 yX3_wordAt wsX3_wordAt) := goodIn_app (goodIn_of _ (by decide +kernel)) ggX3_wordNow_X3_wordAt
set_option maxRecDepth 20000 in
theorem ggX3_wordNow_X3_isTokenWord : GoodIn wsX3_wordNow wsX3_isTokenWord := goodIn_r _ [8, 9, 10, 11, 12, 13, 14, 15, 16, 17, 18, 19, 20, 21, 22, 23, 24, 25, 26, 27, 28, 29, 30, 31, 32, 33, 34, 35, 36, 37, 38, 39, 40, 41, 42, 43, 44, 45, 46, 47, 48, 49, 50, 51, 52, 53, 54, 55, 56, 57, 58, 59, 60, 61, 62, 63, 64, 65, 66] (by decide +kernel) (by decide +kernel)
set_option maxRecDepth 20000 in
theorem gX3_wordNow_X3_isTokenWord : GoodIn wsX3_wordNow (wsV RX3 84 RX3 yX3_isTokenWord wsX3_isTokenWord) := goodIn_app (goodIn_of _ (by decide +kernel)) ggX3_wordNow_X3_isTokenWord
set_option maxRecDepth 20000 in
theorem ggX3_isTokenWord_J0_length_8abf5 : GoodIn wsX3_isTokenWord wsJ0_length_8abf5 := goodIn_r _ [8, 9, 10, 11, 12, 7, 13, 14, 15] (by decide +kernel) (by decide +kernel)
set_option maxRecDepth 20000 in
theorem gX3_isTokenWord_J0_length_8abf5 : GoodIn wsX3_isTokenWord (wsV RX3 88 RJ0 yJ0_length_8abf5 wsJ0_length_8abf5) := goodIn_app (goodIn_of _ (by decide +kernel)) ggX3_isTokenWord_J0_length_8abf5
set_option maxRecDepth 20000 in
theorem ggX3_isTokenWord_J0_charAt_5068e : GoodIn wsX3_isTokenWord wsJ0_charAt_5068e := goodIn_r _ [19, 9, 20, 21, 22, 7, 23, 14, 15, 24, 25, 26, 27, 28, 29, 30, 31, 32, 33, 34, 35, 36, 37, 38, 39, 40, 41, 42, 43, 44, 45, 46, 47, 48, 49, 50, 51, 52] (by decide +kernel) (by decide +kernel)
set_option maxRecDepth 20000 in
theorem gX3_isTokenWord_J0_charAt_5068e : GoodIn wsX3_isTokenWord (wsV RX3 92 RJ0 yJ0_charAt_5068e wsJ0_charAt_5068e) := goodIn_app (goodIn_of _ (by decide +kernel)) ggX3_isTokenWord_J0_charAt_5068e
set_option maxRecDepth 20000 in
theorem ggX3_isSecondDue_X1_isKnownSlip : GoodIn wsX3_isSecondDue wsX1_isKnownSlip := goodIn_r _ [6, 7, 8, 9, 10, 11, 12, 13, 14, 15, 16, 17, 18, 19, 20, 21, 22] (by decide +kernel) (by decide +kernel)
set_option maxRecDepth 20000 in
theorem gX3_isSecondDue_X1_isKnownSlip : GoodIn wsX3_isSecondDue (wsV RX3 113 RX1 yX1_isKnownSlip wsX1_isKnownSlip) := goodIn_app (goodIn_of _ (by decide +kernel)) ggX3_isSecondDue_X1_isKnownSlip
set_option maxRecDepth 20000 in
theorem ggX3_takeEffect_X1_setAsAtFirst : GoodIn wsX3_takeEffect wsX1_setAsAtFirst := goodIn_r _ [15, 16, 17, 18, 19, 20, 21, 22, 23, 24, 25, 26, 27, 28, 29, 30, 31, 32, 47, 48, 49, 50, 51, 52, 53, 54, 55, 56, 57, 58, 59, 60] (by decide +kernel) (by decide +kernel)
set_option maxRecDepth 20000 in
theorem gX3_takeEffect_X1_setAsAtFirst : GoodIn wsX3_takeEffect (wsV RX3 116 RX1 yX1_setAsAtFirst wsX1_setAsAtFirst) := goodIn_app (goodIn_of _ (by decide +kernel)) ggX3_takeEffect_X1_setAsAtFirst
set_option maxRecDepth 20000 in
theorem ggX3_takeEffect_X4_exchange : GoodIn wsX3_takeEffect wsX4_exchange := goodIn_r _ [35] (by decide +kernel) (by decide +kernel)
set_option maxRecDepth 20000 in
theorem gX3_takeEffect_X4_exchange : GoodIn wsX3_takeEffect (va_wsS RX3 136 yX4_exchange wsX4_exchange) := goodIn_app (goodIn_of _ (by decide +kernel)) ggX3_takeEffect_X4_exchange
set_option maxRecDepth 20000 in
theorem ggX3_takeEffect_X1_addReport : GoodIn wsX3_takeEffect wsX1_addReport := goodIn_r _ [39, 22, 40, 41, 47, 48, 49, 50, 51, 52, 53, 54, 55, 56, 57, 58, 59, 60] (by decide +kernel) (by decide +kernel)
set_option maxRecDepth 20000 in
theorem gX3_takeEffect_X1_addReport : GoodIn wsX3_takeEffect (wsV RX3 142 RX1 yX1_addReport wsX1_addReport) := goodIn_app (goodIn_of _ (by decide +kernel)) ggX3_takeEffect_X1_addReport
set_option maxRecDepth 20000 in
theorem ggX3_takeEffect_X1_addMove : GoodIn wsX3_takeEffect wsX1_addMove := goodIn_r _ [45, 23, 46, 47, 48, 49, 50, 51, 52, 53, 54, 55, 56, 57, 58, 59, 60] (by decide +kernel) (by decide +kernel)
set_option maxRecDepth 20000 in
theorem gX3_takeEffect_X1_addMove : GoodIn wsX3_takeEffect (wsV RX3 145 RX1 yX1_addMove wsX1_addMove) := goodIn_app (goodIn_of _ (by decide +kernel)) ggX3_takeEffect_X1_addMove
set_option maxRecDepth 20000 in
theorem ggX3_toNextToken_X3_isWithin : GoodIn wsX3_toNextToken wsX3_isWithin := goodIn_r _ [9] (by decide +kernel) (by decide +kernel)
set_option maxRecDepth 20000 in
theorem gX3_toNextToken_X3_isWithin : GoodIn wsX3_toNextToken (va_wsS RX3 149 yX3_isWithin wsX3_isWithin) := goodIn_app (goodIn_of _ (by decide +kernel)) ggX3_toNextToken_X3_isWithin
set_option maxRecDepth 20000 in
theorem ggX3_toNextToken_X3_takeWord : GoodIn wsX3_toNextToken wsX3_takeWord := goodIn_r _ [13, 5, 1, 2, 3, 6, 7, 8, 9, 23, 24, 25, 26, 27, 28] (by decide +kernel) (by decide +kernel)
set_option maxRecDepth 20000 in
theorem gX3_toNextToken_X3_takeWord : GoodIn wsX3_toNextToken (wsV RX3 153 RX3 yX3_takeWord wsX3_takeWord) := goodIn_app (goodIn_of _ (by decide +kernel)) ggX3_toNextToken_X3_takeWord
set_option maxRecDepth 20000 in
theorem ggX3_toNextToken_X3_takeFigures : GoodIn wsX3_toNextToken wsX3_takeFigures := goodIn_r _ [17, 18, 1, 2, 3, 19, 20, 21, 22, 4, 5, 6, 7, 8, 9, 23, 24, 25, 26, 27, 28] (by decide +kernel) (by decide +kernel)
set_option maxRecDepth 20000 in
theorem gX3_toNextToken_X3_takeFigures : GoodIn wsX3_toNextToken (wsV RX3 156 RX3 yX3_takeFigures wsX3_takeFigures) := goodIn_app (goodIn_of _ (by decide +kernel)) ggX3_toNextToken_X3_takeFigures
set_option maxRecDepth 20000 in
theorem ggX3_takeWord_X3_isWithin : GoodIn wsX3_takeWord wsX3_isWithin := goodIn_r _ [8] (by decide +kernel) (by decide +kernel)
set_option maxRecDepth 20000 in
theorem gX3_takeWord_X3_isWithin : GoodIn wsX3_takeWord (va_wsS RX3 149 yX3_isWithin wsX3_isWithin) := goodIn_app (goodIn_of _ (by decide +kernel)) ggX3_takeWord_X3_isWithin
set_option maxRecDepth 20000 in
theorem ggX3_takeFigures_X3_isWithin : GoodIn wsX3_takeFigures wsX3_isWithin := goodIn_r _ [14] (by decide +kernel) (by decide +kernel)
set_option maxRecDepth 20000 in
theorem gX3_takeFigures_X3_isWithin : GoodIn wsX3_takeFigures (va_wsS RX3 149 yX3_isWithin wsX3_isWithin) := goodIn_app (goodIn_of _ (by decide +kernel)) ggX3_takeFigures_X3_isWithin
set_option maxRecDepth 20000 in
theorem ggX4_setToNext_X4_exchange : GoodIn wsX4_setToNext wsX4_exchange := goodIn_r _ [4] (by decide +kernel) (by decide +kernel)
set_option maxRecDepth 20000 in
theorem gX4_setToNext_X4_exchange : GoodIn wsX4_setToNext (va_wsS RX4 7 yX4_exchange wsX4_exchange) := goodIn_app (goodIn_of _ (by decide +kernel)) ggX4_setToNext_X4_exchange
set_option maxRecDepth 20000 in
theorem ggX4_rankOf_J6_bitCount_0f7a4 : GoodIn wsX4_rankOf wsJ6_bitCount_0f7a4 := goodIn_r _ [4, 5, 6, 7] (by decide +kernel) (by decide +kernel)
set_option maxRecDepth 20000 in
theorem gX4_rankOf_J6_bitCount_0f7a4 : GoodIn wsX4_rankOf (va_wsS RX4 13 yJ6_bitCount_0f7a4 wsJ6_bitCount_0f7a4) := goodIn_app (goodIn_of _ (by decide +kernel)) ggX4_rankOf_J6_bitCount_0f7a4
set_option maxRecDepth 20000 in
theorem ggX4_setToRank_X4_slipLeft : GoodIn wsX4_setToRank wsX4_slipLeft := goodIn_r _ [4] (by decide +kernel) (by decide +kernel)
set_option maxRecDepth 20000 in
theorem gX4_setToRank_X4_slipLeft : GoodIn wsX4_setToRank (va_wsS RX4 25 yX4_slipLeft wsX4_slipLeft) := goodIn_app (goodIn_of _ (by decide +kernel)) ggX4_setToRank_X4_slipLeft
set_option maxRecDepth 20000 in
theorem ggX4_setBySeed_X4_setToFirst : GoodIn wsX4_setBySeed wsX4_setToFirst := goodIn_r _ [8] (by decide +kernel) (by decide +kernel)
set_option maxRecDepth 20000 in
theorem gX4_setBySeed_X4_setToFirst : GoodIn wsX4_setBySeed (va_wsS RX4 29 yX4_setToFirst wsX4_setToFirst) := goodIn_app (goodIn_of _ (by decide +kernel)) ggX4_setBySeed_X4_setToFirst
set_option maxRecDepth 20000 in
theorem ggX4_setBySeed_X4_exchange : GoodIn wsX4_setBySeed wsX4_exchange := goodIn_r _ [11] (by decide +kernel) (by decide +kernel)
set_option maxRecDepth 20000 in
theorem gX4_setBySeed_X4_exchange : GoodIn wsX4_setBySeed (va_wsS RX4 7 yX4_exchange wsX4_exchange) := goodIn_app (goodIn_of _ (by decide +kernel)) ggX4_setBySeed_X4_exchange
set_option maxRecDepth 20000 in
theorem ggX4_ringMark_X4_ringLength : GoodIn wsX4_ringMark wsX4_ringLength := goodIn_r _ [4] (by decide +kernel) (by decide +kernel)
set_option maxRecDepth 20000 in
theorem gX4_ringMark_X4_ringLength : GoodIn wsX4_ringMark (va_wsS RX4 41 yX4_ringLength wsX4_ringLength) := goodIn_app (goodIn_of _ (by decide +kernel)) ggX4_ringMark_X4_ringLength
set_option maxRecDepth 20000 in
theorem ggX4_swapsBetween_X4_boxOf : GoodIn wsX4_swapsBetween wsX4_boxOf := goodIn_r _ [4] (by decide +kernel) (by decide +kernel)
set_option maxRecDepth 20000 in
theorem gX4_swapsBetween_X4_boxOf : GoodIn wsX4_swapsBetween (va_wsS RX4 45 yX4_boxOf wsX4_boxOf) := goodIn_app (goodIn_of _ (by decide +kernel)) ggX4_swapsBetween_X4_boxOf
set_option maxRecDepth 20000 in
theorem ggX4_isRoot_X4_stepsFrom : GoodIn wsX4_isRoot wsX4_stepsFrom := goodIn_r _ [4] (by decide +kernel) (by decide +kernel)
set_option maxRecDepth 20000 in
theorem gX4_isRoot_X4_stepsFrom : GoodIn wsX4_isRoot (va_wsS RX4 48 yX4_stepsFrom wsX4_stepsFrom) := goodIn_app (goodIn_of _ (by decide +kernel)) ggX4_isRoot_X4_stepsFrom
set_option maxRecDepth 20000 in
theorem ggX5_init_X1_init : GoodIn wsX5_init wsX1_init := goodIn_r _ [29, 30, 2, 3, 18, 31, 32, 33, 34, 35, 36, 37, 38, 39, 40, 41, 6, 42, 43, 44, 45, 46, 47, 48, 49, 50, 51, 52, 53, 54, 55, 56, 76, 77, 78, 79, 80, 81, 82, 83, 84, 85, 86, 87, 88, 89] (by decide +kernel) (by decide +kernel)
set_option maxRecDepth 20000 in
theorem gX5_init_X1_init : GoodIn wsX5_init (wsX1_init) := ggX5_init_X1_init
set_option maxRecDepth 20000 in
theorem ggX5_init_X3_init : GoodIn wsX5_init wsX3_init := goodIn_r _ [59, 60, 2, 3, 61, 62, 63, 64, 65, 66, 67, 103, 104, 105, 106, 107, 108] (by decide +kernel) (by decide +kernel)
set_option maxRecDepth 20000 in
theorem gX5_init_X3_init : GoodIn wsX5_init (wsX3_init) := ggX5_init_X3_init
set_option maxRecDepth 20000 in
theorem ggX5_init_X2_init : GoodIn wsX5_init wsX2_init := goodIn_r _ [70, 71, 2, 3, 18, 72, 73, 74, 75, 109, 110, 111, 112] (by decide +kernel) (by decide +kernel)
set_option maxRecDepth 20000 in
theorem gX5_init_X2_init : GoodIn wsX5_init (wsX2_init) := ggX5_init_X2_init
set_option maxRecDepth 20000 in
theorem ggX5_boxes_X5_refuseBad : GoodIn wsX5_boxes wsX5_refuseBad := goodIn_r _ [7, 8, 31, 32, 33, 34, 35, 36, 37, 38, 39, 40, 41, 42, 43] (by decide +kernel) (by decide +kernel)
set_option maxRecDepth 20000 in
theorem gX5_boxes_X5_refuseBad : GoodIn wsX5_boxes (wsV RX5 65 RX5 yX5_refuseBad wsX5_refuseBad) := goodIn_app (goodIn_of _ (by decide +kernel)) ggX5_boxes_X5_refuseBad
set_option maxRecDepth 20000 in
theorem ggX5_boxes_X1_setAsAtFirst : GoodIn wsX5_boxes wsX1_setAsAtFirst := goodIn_r _ [13, 14, 15, 16, 17, 18, 19, 20, 21, 22, 23, 24, 25, 26, 27, 28, 29, 30, 44, 45, 46, 47, 48, 49, 50, 51, 52, 53, 54, 55, 56, 57] (by decide +kernel) (by decide +kernel)
set_option maxRecDepth 20000 in
theorem gX5_boxes_X1_setAsAtFirst : GoodIn wsX5_boxes (wsV RX5 72 RX1 yX1_setAsAtFirst wsX1_setAsAtFirst) := goodIn_app (goodIn_of _ (by decide +kernel)) ggX5_boxes_X1_setAsAtFirst
set_option maxRecDepth 20000 in
theorem ggX5_put_X5_putLeave : GoodIn wsX5_put wsX5_putLeave := goodIn_r _ [7, 1, 8, 9, 10, 11, 12, 6, 13, 14, 15, 16, 17, 18, 19, 20, 21, 22, 23, 24, 25, 26, 27, 28, 29, 30, 31, 32, 33, 34, 35, 36, 37, 38, 39, 40, 41] (by decide +kernel) (by decide +kernel)
set_option maxRecDepth 20000 in
theorem gX5_put_X5_putLeave : GoodIn wsX5_put (wsV RX5 76 RX5 yX5_putLeave wsX5_putLeave) := goodIn_app (goodIn_of _ (by decide +kernel)) ggX5_put_X5_putLeave
set_option maxRecDepth 20000 in
theorem ggX5_put_X5_refuseBad : GoodIn wsX5_put wsX5_refuseBad := goodIn_r _ [13, 14, 15, 16, 17, 18, 19, 20, 21, 22, 23, 24, 25, 26, 27] (by decide +kernel) (by decide +kernel)
set_option maxRecDepth 20000 in
theorem gX5_put_X5_refuseBad : GoodIn wsX5_put (wsV RX5 65 RX5 yX5_refuseBad wsX5_refuseBad) := goodIn_app (goodIn_of _ (by decide +kernel)) ggX5_put_X5_refuseBad
set_option maxRecDepth 20000 in
theorem ggX5_putLeave_X5_refuseBad : GoodIn wsX5_putLeave wsX5_refuseBad := goodIn_r _ [8, 9, 10, 11, 12, 13, 14, 15, 16, 17, 18, 19, 20, 21, 22] (by decide +kernel) (by decide +kernel)
set_option maxRecDepth 20000 in
theorem gX5_putLeave_X5_refuseBad : GoodIn wsX5_putLeave (wsV RX5 65 RX5 yX5_refuseBad wsX5_refuseBad) := goodIn_app (goodIn_of _ (by decide +kernel)) ggX5_putLeave_X5_refuseBad
set_option maxRecDepth 20000 in
theorem ggX5_rule_X5_isNoBox : GoodIn wsX5_rule wsX5_isNoBox := goodIn_r _ [7, 1, 8, 14, 15, 16, 17, 18, 19, 20, 21, 22, 23, 24, 25, 26, 27, 28, 29, 30, 31, 32, 33, 34, 35, 36, 37, 38, 39, 40] (by decide +kernel) (by decide +kernel)
set_option maxRecDepth 20000 in
theorem gX5_rule_X5_isNoBox : GoodIn wsX5_rule (wsV RX5 86 RX5 yX5_isNoBox wsX5_isNoBox) := goodIn_app (goodIn_of _ (by decide +kernel)) ggX5_rule_X5_isNoBox
set_option maxRecDepth 20000 in
theorem ggX5_rule_X5_refuseBad : GoodIn wsX5_rule wsX5_refuseBad := goodIn_r _ [12, 13, 14, 15, 16, 17, 18, 19, 20, 21, 22, 23, 24, 25, 26] (by decide +kernel) (by decide +kernel)
set_option maxRecDepth 20000 in
theorem gX5_rule_X5_refuseBad : GoodIn wsX5_rule (wsV RX5 65 RX5 yX5_refuseBad wsX5_refuseBad) := goodIn_app (goodIn_of _ (by decide +kernel)) ggX5_rule_X5_refuseBad
set_option maxRecDepth 20000 in
theorem ggX5_swap_X5_isNoBox : GoodIn wsX5_swap wsX5_isNoBox := goodIn_r _ [7, 1, 8, 45, 46, 47, 48, 49, 50, 51, 52, 53, 54, 55, 56, 57, 58, 59, 60, 61, 62, 63, 64, 65, 66, 67, 68, 69, 70, 71] (by decide +kernel) (by decide +kernel)
set_option maxRecDepth 20000 in
theorem gX5_swap_X5_isNoBox : GoodIn wsX5_swap (wsV RX5 86 RX5 yX5_isNoBox wsX5_isNoBox) := goodIn_app (goodIn_of _ (by decide +kernel)) ggX5_swap_X5_isNoBox
set_option maxRecDepth 20000 in
theorem ggX5_swap_X5_refuseBad : GoodIn wsX5_swap wsX5_refuseBad := goodIn_r _ [12, 13, 45, 46, 47, 48, 49, 50, 51, 52, 53, 54, 55, 56, 57] (by decide +kernel) (by decide +kernel)
set_option maxRecDepth 20000 in
theorem gX5_swap_X5_refuseBad : GoodIn wsX5_swap (wsV RX5 65 RX5 yX5_refuseBad wsX5_refuseBad) := goodIn_app (goodIn_of _ (by decide +kernel)) ggX5_swap_X5_refuseBad
set_option maxRecDepth 20000 in
theorem ggX5_swap_X1_keepPast : GoodIn wsX5_swap wsX1_keepPast := goodIn_r _ [18, 19, 20, 21, 22, 23, 24, 25, 26, 27, 17, 28, 29, 30, 31, 32, 33, 34, 35, 36, 37, 38, 39, 40, 41, 58, 59, 60, 61, 62, 63, 64, 65, 66, 67, 68, 69, 70, 71] (by decide +kernel) (by decide +kernel)
set_option maxRecDepth 20000 in
theorem gX5_swap_X1_keepPast : GoodIn wsX5_swap (wsV RX5 93 RX1 yX1_keepPast wsX1_keepPast) := goodIn_app (goodIn_of _ (by decide +kernel)) ggX5_swap_X1_keepPast
set_option maxRecDepth 20000 in
theorem ggX5_swap_X4_exchange : GoodIn wsX5_swap wsX4_exchange := goodIn_r _ [44] (by decide +kernel) (by decide +kernel)
set_option maxRecDepth 20000 in
theorem gX5_swap_X4_exchange : GoodIn wsX5_swap (va_wsS RX5 99 yX4_exchange wsX4_exchange) := goodIn_app (goodIn_of _ (by decide +kernel)) ggX5_swap_X4_exchange
set_option maxRecDepth 20000 in
theorem ggX5_lay_X5_isNoRank : GoodIn wsX5_lay wsX5_isNoRank := goodIn_r _ [8, 9, 1, 3, 50, 51, 52, 53, 54, 55, 56, 57, 58, 59, 60, 61, 62, 63, 64, 65, 66, 67, 68, 69, 70, 71, 72, 73, 74, 75, 76] (by decide +kernel) (by decide +kernel)
set_option maxRecDepth 20000 in
theorem gX5_lay_X5_isNoRank : GoodIn wsX5_lay (wsV RX5 105 RX5 yX5_isNoRank wsX5_isNoRank) := goodIn_app (goodIn_of _ (by decide +kernel)) ggX5_lay_X5_isNoRank
set_option maxRecDepth 20000 in
theorem ggX5_lay_X5_refuseBad : GoodIn wsX5_lay wsX5_refuseBad := goodIn_r _ [13, 14, 50, 51, 52, 53, 54, 55, 56, 57, 58, 59, 60, 61, 62] (by decide +kernel) (by decide +kernel)
set_option maxRecDepth 20000 in
theorem gX5_lay_X5_refuseBad : GoodIn wsX5_lay (wsV RX5 65 RX5 yX5_refuseBad wsX5_refuseBad) := goodIn_app (goodIn_of _ (by decide +kernel)) ggX5_lay_X5_refuseBad
set_option maxRecDepth 20000 in
theorem ggX5_lay_X1_rankNow : GoodIn wsX5_lay wsX1_rankNow := goodIn_r _ [19, 20, 21, 22, 23, 24, 25, 26, 27, 28, 29, 30, 31, 32, 63, 64, 65, 66, 67, 68, 69, 70, 71, 72, 73, 74, 75, 76] (by decide +kernel) (by decide +kernel)
set_option maxRecDepth 20000 in
theorem gX5_lay_X1_rankNow : GoodIn wsX5_lay (wsV RX5 108 RX1 yX1_rankNow wsX1_rankNow) := goodIn_app (goodIn_of _ (by decide +kernel)) ggX5_lay_X1_rankNow
set_option maxRecDepth 20000 in
theorem ggX5_lay_X1_keepPast : GoodIn wsX5_lay wsX1_keepPast := goodIn_r _ [36, 37, 38, 39, 40, 41, 42, 43, 16, 17, 18, 19, 20, 21, 22, 23, 24, 25, 26, 27, 28, 29, 30, 31, 32, 63, 64, 65, 66, 67, 68, 69, 70, 71, 72, 73, 74, 75, 76] (by decide +kernel) (by decide +kernel)
set_option maxRecDepth 20000 in
theorem gX5_lay_X1_keepPast : GoodIn wsX5_lay (wsV RX5 93 RX1 yX1_keepPast wsX1_keepPast) := goodIn_app (goodIn_of _ (by decide +kernel)) ggX5_lay_X1_keepPast
set_option maxRecDepth 20000 in
theorem ggX5_lay_X4_setToRank : GoodIn wsX5_lay wsX4_setToRank := goodIn_r _ [46, 47, 48, 24, 49] (by decide +kernel) (by decide +kernel)
set_option maxRecDepth 20000 in
theorem gX5_lay_X4_setToRank : GoodIn wsX5_lay (va_wsS RX5 111 yX4_setToRank wsX4_setToRank) := goodIn_app (goodIn_of _ (by decide +kernel)) ggX5_lay_X4_setToRank
set_option maxRecDepth 20000 in
theorem ggX5_undo_X5_refuseNo : GoodIn wsX5_undo wsX5_refuseNo := goodIn_r _ [7, 8, 25, 26, 27, 28, 29, 30, 31, 32, 33, 34, 35, 36, 37] (by decide +kernel) (by decide +kernel)
set_option maxRecDepth 20000 in
theorem gX5_undo_X5_refuseNo : GoodIn wsX5_undo (wsV RX5 117 RX5 yX5_refuseNo wsX5_refuseNo) := goodIn_app (goodIn_of _ (by decide +kernel)) ggX5_undo_X5_refuseNo
set_option maxRecDepth 20000 in
theorem ggX5_undo_X1_goBack : GoodIn wsX5_undo wsX1_goBack := goodIn_r _ [13, 14, 15, 16, 17, 18, 19, 20, 21, 22, 23, 24, 38, 39, 40, 41, 42, 43, 44, 45, 46, 47, 48, 49, 50, 51] (by decide +kernel) (by decide +kernel)
set_option maxRecDepth 20000 in
theorem gX5_undo_X1_goBack : GoodIn wsX5_undo (wsV RX5 120 RX1 yX1_goBack wsX1_goBack) := goodIn_app (goodIn_of _ (by decide +kernel)) ggX5_undo_X1_goBack
set_option maxRecDepth 20000 in
theorem ggX5_know_X5_isNoBox : GoodIn wsX5_know wsX5_isNoBox := goodIn_r _ [7, 1, 8, 26, 27, 28, 29, 30, 31, 32, 33, 34, 35, 36, 37, 38, 39, 40, 41, 42, 43, 44, 45, 46, 47, 48, 49, 50, 51, 52] (by decide +kernel) (by decide +kernel)
set_option maxRecDepth 20000 in
theorem gX5_know_X5_isNoBox : GoodIn wsX5_know (wsV RX5 86 RX5 yX5_isNoBox wsX5_isNoBox) := goodIn_app (goodIn_of _ (by decide +kernel)) ggX5_know_X5_isNoBox
set_option maxRecDepth 20000 in
theorem ggX5_know_X5_refuseBad : GoodIn wsX5_know wsX5_refuseBad := goodIn_r _ [12, 13, 26, 27, 28, 29, 30, 31, 32, 33, 34, 35, 36, 37, 38] (by decide +kernel) (by decide +kernel)
set_option maxRecDepth 20000 in
theorem gX5_know_X5_refuseBad : GoodIn wsX5_know (wsV RX5 65 RX5 yX5_refuseBad wsX5_refuseBad) := goodIn_app (goodIn_of _ (by decide +kernel)) ggX5_know_X5_refuseBad
set_option maxRecDepth 20000 in
theorem ggX5_know_X1_isKnownSlip : GoodIn wsX5_know wsX1_isKnownSlip := goodIn_r _ [18, 19, 20, 39, 40, 41, 42, 43, 44, 45, 46, 47, 48, 49, 50, 51, 52] (by decide +kernel) (by decide +kernel)
set_option maxRecDepth 20000 in
theorem gX5_know_X1_isKnownSlip : GoodIn wsX5_know (wsV RX5 126 RX1 yX1_isKnownSlip wsX1_isKnownSlip) := goodIn_app (goodIn_of _ (by decide +kernel)) ggX5_know_X1_isKnownSlip
set_option maxRecDepth 20000 in
theorem ggX5_know_X5_refuseNo : GoodIn wsX5_know wsX5_refuseNo := goodIn_r _ [24, 25, 26, 27, 28, 29, 30, 31, 32, 33, 34, 35, 36, 37, 38] (by decide +kernel) (by decide +kernel)
set_option maxRecDepth 20000 in
theorem gX5_know_X5_refuseNo : GoodIn wsX5_know (wsV RX5 117 RX5 yX5_refuseNo wsX5_refuseNo) := goodIn_app (goodIn_of _ (by decide +kernel)) ggX5_know_X5_refuseNo
set_option maxRecDepth 20000 in
theorem ggX5_report_X5_isNoBox : GoodIn wsX5_report wsX5_isNoBox := goodIn_r _ [8, 1, 2, 27, 28, 29, 30, 31, 32, 33, 34, 35, 36, 37, 38, 39, 40, 41, 42, 43, 44, 45, 46, 47, 48, 49, 50, 51, 52, 53] (by decide +kernel) (by decide +kernel)
set_option maxRecDepth 20000 in
theorem gX5_report_X5_isNoBox : GoodIn wsX5_report (wsV RX5 86 RX5 yX5_isNoBox wsX5_isNoBox) := goodIn_app (goodIn_of _ (by decide +kernel)) ggX5_report_X5_isNoBox
set_option maxRecDepth 20000 in
theorem ggX5_report_X5_refuseBad : GoodIn wsX5_report wsX5_refuseBad := goodIn_r _ [12, 13, 27, 28, 29, 30, 31, 32, 33, 34, 35, 36, 37, 38, 39] (by decide +kernel) (by decide +kernel)
set_option maxRecDepth 20000 in
theorem gX5_report_X5_refuseBad : GoodIn wsX5_report (wsV RX5 65 RX5 yX5_refuseBad wsX5_refuseBad) := goodIn_app (goodIn_of _ (by decide +kernel)) ggX5_report_X5_refuseBad
set_option maxRecDepth 20000 in
theorem ggX5_report_X5_refuseFull : GoodIn wsX5_report wsX5_refuseFull := goodIn_r _ [17, 18, 27, 28, 29, 30, 31, 32, 33, 34, 35, 36, 37, 38, 39] (by decide +kernel) (by decide +kernel)
set_option maxRecDepth 20000 in
theorem gX5_report_X5_refuseFull : GoodIn wsX5_report (wsV RX5 132 RX5 yX5_refuseFull wsX5_refuseFull) := goodIn_app (goodIn_of _ (by decide +kernel)) ggX5_report_X5_refuseFull
set_option maxRecDepth 20000 in
theorem ggX5_report_X1_addReport : GoodIn wsX5_report wsX1_addReport := goodIn_r _ [23, 24, 25, 26, 40, 41, 42, 43, 44, 45, 46, 47, 48, 49, 50, 51, 52, 53] (by decide +kernel) (by decide +kernel)
set_option maxRecDepth 20000 in
theorem gX5_report_X1_addReport : GoodIn wsX5_report (wsV RX5 135 RX1 yX1_addReport wsX1_addReport) := goodIn_app (goodIn_of _ (by decide +kernel)) ggX5_report_X1_addReport
set_option maxRecDepth 20000 in
theorem ggX5_forget_X1_knownCount : GoodIn wsX5_forget wsX1_knownCount := goodIn_r _ [8, 9, 10, 34, 35, 36, 37, 38, 39, 40, 41, 42, 43, 44, 45, 46, 47] (by decide +kernel) (by decide +kernel)
set_option maxRecDepth 20000 in
theorem gX5_forget_X1_knownCount : GoodIn wsX5_forget (wsV RX5 139 RX1 yX1_knownCount wsX1_knownCount) := goodIn_app (goodIn_of _ (by decide +kernel)) ggX5_forget_X1_knownCount
set_option maxRecDepth 20000 in
theorem ggX5_forget_J7_fill_53178 : GoodIn wsX5_forget wsJ7_fill_53178 := goodIn_r _ [14] (by decide +kernel) (by decide +kernel)
set_option maxRecDepth 20000 in
theorem gX5_forget_J7_fill_53178 : GoodIn wsX5_forget (va_wsS RX5 142 yJ7_fill_53178 wsJ7_fill_53178) := goodIn_app (goodIn_of _ (by decide +kernel)) ggX5_forget_J7_fill_53178
set_option maxRecDepth 20000 in
theorem ggX5_forget_X5_refuseBad : GoodIn wsX5_forget wsX5_refuseBad := goodIn_r _ [19, 20, 21, 22, 23, 24, 25, 26, 27, 28, 29, 30, 31, 32, 33] (by decide +kernel) (by decide +kernel)
set_option maxRecDepth 20000 in
theorem gX5_forget_X5_refuseBad : GoodIn wsX5_forget (wsV RX5 65 RX5 yX5_refuseBad wsX5_refuseBad) := goodIn_app (goodIn_of _ (by decide +kernel)) ggX5_forget_X5_refuseBad
set_option maxRecDepth 20000 in
theorem ggX5_type_X5_refuseBad : GoodIn wsX5_type wsX5_refuseBad := goodIn_r _ [8, 9, 15, 16, 17, 18, 19, 20, 21, 22, 23, 24, 25, 26, 27] (by decide +kernel) (by decide +kernel)
set_option maxRecDepth 20000 in
theorem gX5_type_X5_refuseBad : GoodIn wsX5_type (wsV RX5 65 RX5 yX5_refuseBad wsX5_refuseBad) := goodIn_app (goodIn_of _ (by decide +kernel)) ggX5_type_X5_refuseBad
set_option maxRecDepth 20000 in
theorem ggX5_type_X5_refuseFull : GoodIn wsX5_type wsX5_refuseFull := goodIn_r _ [13, 14, 15, 16, 17, 18, 19, 20, 21, 22, 23, 24, 25, 26, 27] (by decide +kernel) (by decide +kernel)
set_option maxRecDepth 20000 in
theorem gX5_type_X5_refuseFull : GoodIn wsX5_type (wsV RX5 132 RX5 yX5_refuseFull wsX5_refuseFull) := goodIn_app (goodIn_of _ (by decide +kernel)) ggX5_type_X5_refuseFull
set_option maxRecDepth 20000 in
theorem ggX5_read_X3_tellItems : GoodIn wsX5_read wsX3_tellItems := goodIn_r _ [8, 9, 10, 11, 12, 13, 14, 7, 15, 16, 17, 18, 19, 20, 21, 22, 23, 24, 25, 26, 27, 28, 29, 30, 31, 32, 33, 34, 35, 36, 37, 38, 39, 40, 41, 42, 43, 44, 45, 46, 47, 48, 49, 50, 51, 52, 53, 54, 55, 56, 57, 58, 59, 60, 61, 62, 63, 64, 65, 66, 67, 68, 69, 70, 71, 72, 73, 74, 75, 76, 77, 78, 79, 80, 81, 82, 83, 84, 85, 86, 87, 88, 89, 90, 91, 92, 93, 94, 95, 96, 97, 98, 99, 100, 101, 102, 103, 104, 105, 106, 107, 108, 109, 110, 111, 112, 113, 114, 115, 116, 117, 118, 119, 120, 121, 122, 123, 124, 125, 126, 127, 128, 129, 130, 131, 132, 133, 134, 135, 136, 137, 138, 139, 140, 141, 142, 143, 144, 145, 146, 147, 148, 149, 150, 151, 152, 153, 154, 155, 156, 157, 158, 159, 160, 183, 184, 185, 186, 187, 188, 189, 190, 191, 192, 193, 194, 195, 196, 197, 198, 199, 200, 201, 202] (by decide +kernel) (by decide +kernel)
set_option maxRecDepth 20000 in
theorem gX5_read_X3_tellItems : GoodIn wsX5_read (wsV RX5 155 RX3 yX3_tellItems wsX3_tellItems) := goodIn_app (goodIn_of _ (by decide +kernel)) ggX5_read_X3_tellItems
set_option maxRecDepth 20000 in
theorem ggX5_read_X1_copyOf : GoodIn wsX5_read wsX1_copyOf := goodIn_r _ [164, 119, 132, 133, 134, 165, 166, 167, 168, 120, 135, 136, 154, 155, 137, 160, 138, 169, 189, 190, 191, 192, 193, 194, 195, 196, 197, 198, 199, 200, 201, 202] (by decide +kernel) (by decide +kernel)
set_option maxRecDepth 20000 in
theorem gX5_read_X1_copyOf : GoodIn wsX5_read (wsV RX5 159 RX1 yX1_copyOf wsX1_copyOf) := goodIn_app (goodIn_of _ (by decide +kernel)) ggX5_read_X1_copyOf
set_option maxRecDepth 20000 in
theorem ggX5_slip_X5_isNoBox : GoodIn wsX5_slip wsX5_isNoBox := goodIn_r _ [7, 1, 8, 14, 15, 16, 17, 18, 19, 20, 21, 22, 23, 24, 25, 26, 27, 28, 29, 30, 31, 32, 33, 34, 35, 36, 37, 38, 39, 40] (by decide +kernel) (by decide +kernel)
set_option maxRecDepth 20000 in
theorem gX5_slip_X5_isNoBox : GoodIn wsX5_slip (wsV RX5 86 RX5 yX5_isNoBox wsX5_isNoBox) := goodIn_app (goodIn_of _ (by decide +kernel)) ggX5_slip_X5_isNoBox
set_option maxRecDepth 20000 in
theorem ggX5_slip_X5_refuseBad : GoodIn wsX5_slip wsX5_refuseBad := goodIn_r _ [12, 13, 14, 15, 16, 17, 18, 19, 20, 21, 22, 23, 24, 25, 26] (by decide +kernel) (by decide +kernel)
set_option maxRecDepth 20000 in
theorem gX5_slip_X5_refuseBad : GoodIn wsX5_slip (wsV RX5 65 RX5 yX5_refuseBad wsX5_refuseBad) := goodIn_app (goodIn_of _ (by decide +kernel)) ggX5_slip_X5_refuseBad
set_option maxRecDepth 20000 in
theorem ggX5_rank_X1_rankNow : GoodIn wsX5_rank wsX1_rankNow := goodIn_r _ [6, 7, 8, 9, 10, 11, 12, 13, 14, 15, 16, 17, 18, 19, 33, 34, 35, 36, 37, 38, 39, 40, 41, 42, 43, 44, 45, 46] (by decide +kernel) (by decide +kernel)
set_option maxRecDepth 20000 in
theorem gX5_rank_X1_rankNow : GoodIn wsX5_rank (wsV RX5 108 RX1 yX1_rankNow wsX1_rankNow) := goodIn_app (goodIn_of _ (by decide +kernel)) ggX5_rank_X1_rankNow
set_option maxRecDepth 20000 in
theorem ggX5_rings_X4_ringCount : GoodIn wsX5_rings wsX4_ringCount := goodIn_r _ [7] (by decide +kernel) (by decide +kernel)
set_option maxRecDepth 20000 in
theorem gX5_rings_X4_ringCount : GoodIn wsX5_rings (va_wsS RX5 163 yX4_ringCount wsX4_ringCount) := goodIn_app (goodIn_of _ (by decide +kernel)) ggX5_rings_X4_ringCount
set_option maxRecDepth 20000 in
theorem ggX5_rings_X5_isNoBox : GoodIn wsX5_rings wsX5_isNoBox := goodIn_r _ [12, 1, 3, 21, 22, 23, 24, 25, 26, 27, 28, 29, 30, 31, 32, 33, 34, 35, 36, 37, 38, 39, 40, 41, 42, 43, 44, 45, 46, 47] (by decide +kernel) (by decide +kernel)
set_option maxRecDepth 20000 in
theorem gX5_rings_X5_isNoBox : GoodIn wsX5_rings (wsV RX5 86 RX5 yX5_isNoBox wsX5_isNoBox) := goodIn_app (goodIn_of _ (by decide +kernel)) ggX5_rings_X5_isNoBox
set_option maxRecDepth 20000 in
theorem ggX5_rings_X5_refuseQuestion : GoodIn wsX5_rings wsX5_refuseQuestion := goodIn_r _ [16, 17, 21, 22, 23, 24, 25, 26, 27, 28, 29, 30, 31, 32, 33] (by decide +kernel) (by decide +kernel)
set_option maxRecDepth 20000 in
theorem gX5_rings_X5_refuseQuestion : GoodIn wsX5_rings (wsV RX5 167 RX5 yX5_refuseQuestion wsX5_refuseQuestion) := goodIn_app (goodIn_of _ (by decide +kernel)) ggX5_rings_X5_refuseQuestion
set_option maxRecDepth 20000 in
theorem ggX5_rings_X4_ringLength : GoodIn wsX5_rings wsX4_ringLength := goodIn_r _ [20] (by decide +kernel) (by decide +kernel)
set_option maxRecDepth 20000 in
theorem gX5_rings_X4_ringLength : GoodIn wsX5_rings (va_wsS RX5 170 yX4_ringLength wsX4_ringLength) := goodIn_app (goodIn_of _ (by decide +kernel)) ggX5_rings_X4_ringLength
set_option maxRecDepth 20000 in
theorem ggX5_opened_X5_isNoBox : GoodIn wsX5_opened wsX5_isNoBox := goodIn_r _ [11, 2, 12, 42, 43, 44, 45, 46, 47, 48, 49, 50, 51, 52, 53, 54, 55, 56, 57, 58, 59, 60, 61, 62, 63, 64, 65, 66, 67, 68] (by decide +kernel) (by decide +kernel)
set_option maxRecDepth 20000 in
theorem gX5_opened_X5_isNoBox : GoodIn wsX5_opened (wsV RX5 86 RX5 yX5_isNoBox wsX5_isNoBox) := goodIn_app (goodIn_of _ (by decide +kernel)) ggX5_opened_X5_isNoBox
set_option maxRecDepth 20000 in
theorem ggX5_opened_X5_refuseQuestion : GoodIn wsX5_opened wsX5_refuseQuestion := goodIn_r _ [16, 17, 42, 43, 44, 45, 46, 47, 48, 49, 50, 51, 52, 53, 54] (by decide +kernel) (by decide +kernel)
set_option maxRecDepth 20000 in
theorem gX5_opened_X5_refuseQuestion : GoodIn wsX5_opened (wsV RX5 167 RX5 yX5_refuseQuestion wsX5_refuseQuestion) := goodIn_app (goodIn_of _ (by decide +kernel)) ggX5_opened_X5_refuseQuestion
set_option maxRecDepth 20000 in
theorem ggX5_opened_X2_seek : GoodIn wsX5_opened wsX2_seek := goodIn_r _ [22, 23, 24, 25, 26, 27, 28, 29, 30, 31, 21, 32, 33, 34, 35, 36, 37, 38, 39, 40, 41, 69, 70, 71, 72, 55, 56, 57, 58, 59, 60, 61, 62, 63, 64, 65, 66, 67, 68] (by decide +kernel) (by decide +kernel)
set_option maxRecDepth 20000 in
theorem gX5_opened_X2_seek : GoodIn wsX5_opened (wsV RX5 174 RX2 yX2_seek wsX2_seek) := goodIn_app (goodIn_of _ (by decide +kernel)) ggX5_opened_X2_seek
set_option maxRecDepth 20000 in
theorem ggX5_finds_X5_findersIn : GoodIn wsX5_finds wsX5_findersIn := goodIn_r _ [7, 1, 8, 9, 10, 11, 12, 6, 13, 14, 15, 16, 17, 18, 19, 20, 21, 22, 23, 24, 25, 26, 27, 28, 29, 30, 31, 32, 33, 34, 35, 36, 37, 38, 39, 40, 41, 42, 43, 44, 45, 46, 47, 48, 49, 50, 51, 52, 53, 54, 55, 56, 57, 58, 59, 60, 61, 62, 63, 64, 65, 66, 67, 68, 69, 70] (by decide +kernel) (by decide +kernel)
set_option maxRecDepth 20000 in
theorem gX5_finds_X5_findersIn : GoodIn wsX5_finds (wsV RX5 184 RX5 yX5_findersIn wsX5_findersIn) := goodIn_app (goodIn_of _ (by decide +kernel)) ggX5_finds_X5_findersIn
set_option maxRecDepth 20000 in
theorem ggX5_worked_X5_refuseBad : GoodIn wsX5_worked wsX5_refuseBad := goodIn_r _ [9, 10, 25, 26, 27, 28, 29, 30, 31, 32, 33, 34, 35, 36, 37] (by decide +kernel) (by decide +kernel)
set_option maxRecDepth 20000 in
theorem gX5_worked_X5_refuseBad : GoodIn wsX5_worked (wsV RX5 65 RX5 yX5_refuseBad wsX5_refuseBad) := goodIn_app (goodIn_of _ (by decide +kernel)) ggX5_worked_X5_refuseBad
set_option maxRecDepth 20000 in
theorem ggX5_worked_X4_stepsFrom : GoodIn wsX5_worked wsX4_stepsFrom := goodIn_r _ [14] (by decide +kernel) (by decide +kernel)
set_option maxRecDepth 20000 in
theorem gX5_worked_X4_stepsFrom : GoodIn wsX5_worked (va_wsS RX5 188 yX4_stepsFrom wsX4_stepsFrom) := goodIn_app (goodIn_of _ (by decide +kernel)) ggX5_worked_X4_stepsFrom
set_option maxRecDepth 20000 in
theorem ggX5_worked_X4_rankOf : GoodIn wsX5_worked wsX4_rankOf := goodIn_r _ [17, 18, 19, 20, 21, 22, 23, 24] (by decide +kernel) (by decide +kernel)
set_option maxRecDepth 20000 in
theorem gX5_worked_X4_rankOf : GoodIn wsX5_worked (va_wsS RX5 191 yX4_rankOf wsX4_rankOf) := goodIn_app (goodIn_of _ (by decide +kernel)) ggX5_worked_X4_rankOf
