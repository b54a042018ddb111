set_option maxRecDepth 20000 in
theorem ggL_law_X6_rank : GoodIn wsL_law wsX6_rank := goodIn_r _ [559, 206, 207, 208, 5, 209, 210, 211, 212, 213, 94, 88, 134, 135, 136, 137, 214, 215, 216, 217, 218, 219, 220, 1133, 1134, 1135, 1136, 1137, 1138, 1139, 1140, 1141, 1142, 1143, 1144, 1145, 1146, 1147, 1148, 1149, 1150, 1151, 1152, 1153, 1154, 1155, 1156, 1157, 1158, 1159, 1160, 1161, 1162] (by decide +kernel) (by decide +kernel)
set_option maxRecDepth 20000 in
theorem gL_law_X6_rank : GoodIn wsL_law (wsV RL 71 RX6 yX6_rank wsX6_rank) := goodIn_app (goodIn_of _ (by decide +kernel)) ggL_law_X6_rank
set_option maxRecDepth 20000 in
theorem ggL_law_X5_rings : GoodIn wsL_law wsX5_rings := goodIn_r _ [563, 15, 175, 115, 564, 565, 59, 566, 158, 159, 160, 2, 161, 567, 568, 569, 570, 32, 571, 572, 573, 1120, 1121, 1122, 1123, 1124, 1125, 1126, 1127, 1128, 1129, 1130, 1131, 1132, 1163, 1164, 1165, 1166, 1167, 1168, 1169, 1170, 1171, 1172, 1173, 1174, 1175, 1176] (by decide +kernel) (by decide +kernel)
set_option maxRecDepth 20000 in
theorem gL_law_X5_rings : GoodIn wsL_law (wsV RL 72 RX5 yX5_rings wsX5_rings) := goodIn_app (goodIn_of _ (by decide +kernel)) ggL_law_X5_rings
set_option maxRecDepth 20000 in
theorem ggL_law_X6_rings : GoodIn wsL_law wsX6_rings := goodIn_r _ [577, 167, 168, 169, 5, 170, 134, 135, 136, 137, 88, 127, 128, 129, 130, 131, 132, 133, 92, 210, 211, 212, 213, 94, 578, 579, 580, 581, 582, 583, 584, 585, 1133, 1134, 1135, 1136, 1137, 1138, 1139, 1140, 1141, 1142, 1143, 1144, 1145, 1146, 1147, 1148, 1149, 1150, 1151, 1152, 1153, 1154, 1155, 1156, 1157, 1158, 1159, 1160, 1161, 1162] (by decide +kernel) (by decide +kernel)
set_option maxRecDepth 20000 in
theorem gL_law_X6_rings : GoodIn wsL_law (wsV RL 75 RX6 yX6_rings wsX6_rings) := goodIn_app (goodIn_of _ (by decide +kernel)) ggL_law_X6_rings
set_option maxRecDepth 20000 in
theorem ggL_law_X5_opened : GoodIn wsL_law wsX5_opened := goodIn_r _ [589, 25, 15, 175, 157, 590, 591, 158, 159, 160, 2, 161, 115, 567, 568, 569, 570, 32, 592, 593, 594, 24, 595, 81, 82, 83, 596, 597, 80, 598, 599, 600, 601, 602, 603, 604, 381, 605, 606, 607, 608, 609, 1120, 1121, 1122, 1123, 1124, 1125, 1126, 1127, 1128, 1129, 1130, 1131, 1132, 1163, 1164, 1165, 1166, 1167, 1168, 1169, 1170, 1171, 1172, 1173, 1174, 1175, 1176, 1183, 1184, 1185, 1186] (by decide +kernel) (by decide +kernel)
set_option maxRecDepth 20000 in
theorem gL_law_X5_opened : GoodIn wsL_law (wsV RL 76 RX5 yX5_opened wsX5_opened) := goodIn_app (goodIn_of _ (by decide +kernel)) ggL_law_X5_opened
set_option maxRecDepth 20000 in
theorem ggL_law_X6_opened : GoodIn wsL_law wsX6_opened := goodIn_r _ [613, 614, 95, 167, 168, 169, 5, 170, 134, 135, 136, 137, 88, 127, 128, 129, 130, 131, 132, 133, 92, 210, 211, 212, 213, 94, 615, 616, 617, 618, 619, 620, 621, 622, 623, 624, 625, 626, 627, 628, 629, 630, 631, 1133, 1134, 1135, 1136, 1137, 1138, 1139, 1140, 1141, 1142, 1143, 1144, 1145, 1146, 1147, 1148, 1149, 1150, 1151, 1152, 1153, 1154, 1155, 1156, 1157, 1158, 1159, 1160, 1161, 1162] (by decide +kernel) (by decide +kernel)
set_option maxRecDepth 20000 in
theorem gL_law_X6_opened : GoodIn wsL_law (wsV RL 79 RX6 yX6_opened wsX6_opened) := goodIn_app (goodIn_of _ (by decide +kernel)) ggL_law_X6_opened
set_option maxRecDepth 20000 in
theorem ggL_law_X5_finds : GoodIn wsL_law wsX5_finds := goodIn_r _ [635, 15, 175, 636, 637, 638, 2, 639, 115, 157, 640, 641, 642, 643, 25, 644, 592, 593, 594, 24, 595, 81, 82, 83, 596, 597, 80, 598, 599, 600, 601, 602, 603, 604, 381, 605, 606, 607, 608, 609, 1120, 1121, 1122, 1123, 1124, 1125, 1126, 1127, 1128, 1129, 1130, 1131, 1132, 1163, 1164, 1165, 1166, 1167, 1168, 1169, 1170, 1171, 1172, 1173, 1174, 1175, 1176, 1183, 1184, 1185, 1186] (by decide +kernel) (by decide +kernel)
set_option maxRecDepth 20000 in
theorem gL_law_X5_finds : GoodIn wsL_law (wsV RL 80 RX5 yX5_finds wsX5_finds) := goodIn_app (goodIn_of _ (by decide +kernel)) ggL_law_X5_finds
set_option maxRecDepth 20000 in
theorem ggL_law_X6_finds : GoodIn wsL_law wsX6_finds := goodIn_r _ [648, 210, 211, 212, 5, 213, 94, 88, 134, 135, 136, 137, 649, 650, 651, 652, 619, 615, 616, 617, 618, 614, 95, 620, 621, 622, 623, 624, 625, 626, 627, 628, 629, 630, 631, 1133, 1134, 1135, 1136, 1137, 1138, 1139, 1140, 1141, 1142, 1143, 1144, 1145, 1146, 1147, 1148, 1149, 1150, 1151, 1152, 1153, 1154, 1155, 1156, 1157, 1158, 1159, 1160, 1161, 1162] (by decide +kernel) (by decide +kernel)
set_option maxRecDepth 20000 in
theorem gL_law_X6_finds : GoodIn wsL_law (wsV RL 83 RX6 yX6_finds wsX6_finds) := goodIn_app (goodIn_of _ (by decide +kernel)) ggL_law_X6_finds
set_option maxRecDepth 20000 in
theorem ggL_law_X5_worked : GoodIn wsL_law wsX5_worked := goodIn_r _ [656, 15, 115, 27, 175, 116, 117, 118, 2, 119, 32, 657, 658, 59, 659, 660, 189, 190, 191, 192, 193, 194, 195, 196, 197, 1120, 1121, 1122, 1123, 1124, 1125, 1126, 1127, 1128, 1129, 1130, 1131, 1132, 1163, 1164, 1165, 1166, 1167, 1168, 1169, 1170, 1171, 1172, 1173, 1174, 1175, 1176] (by decide +kernel) (by decide +kernel)
set_option maxRecDepth 20000 in
theorem gL_law_X5_worked : GoodIn wsL_law (wsV RL 84 RX5 yX5_worked wsX5_worked) := goodIn_app (goodIn_of _ (by decide +kernel)) ggL_law_X5_worked
set_option maxRecDepth 20000 in
theorem ggL_law_X6_worked : GoodIn wsL_law wsX6_worked := goodIn_r _ [664, 665, 127, 128, 5, 129, 130, 131, 132, 133, 92, 666, 667, 668, 669, 88, 94, 134, 135, 136, 137, 214, 215, 216, 217, 218, 219, 220, 1133, 1134, 1135, 1136, 1137, 1138, 1139, 1140, 1141, 1142, 1143, 1144, 1145, 1146, 1147, 1148, 1149, 1150, 1151, 1152, 1153, 1154, 1155, 1156, 1157, 1158, 1159, 1160, 1161, 1162] (by decide +kernel) (by decide +kernel)
set_option maxRecDepth 20000 in
theorem gL_law_X6_worked : GoodIn wsL_law (wsV RL 87 RX6 yX6_worked wsX6_worked) := goodIn_app (goodIn_of _ (by decide +kernel)) ggL_law_X6_worked
set_option maxRecDepth 20000 in
theorem ggL_law_X5_back : GoodIn wsL_law wsX5_back := goodIn_r _ [673, 15, 115, 175, 571, 572, 59, 573, 674, 675, 2, 676, 677, 678, 381, 679, 1120, 1121, 1122, 1123, 1124, 1125, 1126, 1127, 1128, 1129, 1130, 1131, 1132, 1163, 1164, 1165, 1166, 1167, 1168, 1169, 1170, 1171, 1172, 1173, 1174, 1175, 1176] (by decide +kernel) (by decide +kernel)
set_option maxRecDepth 20000 in
theorem gL_law_X5_back : GoodIn wsL_law (wsV RL 88 RX5 yX5_back wsX5_back) := goodIn_app (goodIn_of _ (by decide +kernel)) ggL_law_X5_back
set_option maxRecDepth 20000 in
theorem ggL_law_X6_back : GoodIn wsL_law wsX6_back := goodIn_r _ [683, 666, 667, 668, 5, 669, 88, 94, 134, 135, 136, 137, 214, 215, 216, 217, 218, 219, 220, 1133, 1134, 1135, 1136, 1137, 1138, 1139, 1140, 1141, 1142, 1143, 1144, 1145, 1146, 1147, 1148, 1149, 1150, 1151, 1152, 1153, 1154, 1155, 1156, 1157, 1158, 1159, 1160, 1161, 1162] (by decide +kernel) (by decide +kernel)
set_option maxRecDepth 20000 in
theorem gL_law_X6_back : GoodIn wsL_law (wsV RL 91 RX6 yX6_back wsX6_back) := goodIn_app (goodIn_of _ (by decide +kernel)) ggL_law_X6_back
set_option maxRecDepth 20000 in
theorem ggL_law_X5_undoes : GoodIn wsL_law wsX5_undoes := goodIn_r _ [687, 15, 115, 27, 175, 660, 189, 59, 190, 191, 192, 193, 194, 195, 196, 197, 1120, 1121, 1122, 1123, 1124, 1125, 1126, 1127, 1128, 1129, 1130, 1131, 1132, 1163, 1164, 1165, 1166, 1167, 1168, 1169, 1170, 1171, 1172, 1173, 1174, 1175, 1176] (by decide +kernel) (by decide +kernel)
set_option maxRecDepth 20000 in
theorem gL_law_X5_undoes : GoodIn wsL_law (wsV RL 92 RX5 yX5_undoes wsX5_undoes) := goodIn_app (goodIn_of _ (by decide +kernel)) ggL_law_X5_undoes
set_option maxRecDepth 20000 in
theorem ggL_law_X6_undoes : GoodIn wsL_law wsX6_undoes := goodIn_r _ [691, 94, 88, 134, 135, 136, 5, 137, 214, 215, 216, 217, 218, 219, 220, 1133, 1134, 1135, 1136, 1137, 1138, 1139, 1140, 1141, 1142, 1143, 1144, 1145, 1146, 1147, 1148, 1149, 1150, 1151, 1152, 1153, 1154, 1155, 1156, 1157, 1158, 1159, 1160, 1161, 1162] (by decide +kernel) (by decide +kernel)
set_option maxRecDepth 20000 in
theorem gL_law_X6_undoes : GoodIn wsL_law (wsV RL 95 RX6 yX6_undoes wsX6_undoes) := goodIn_app (goodIn_of _ (by decide +kernel)) ggL_law_X6_undoes
set_option maxRecDepth 20000 in
theorem ggL_law_X5_goesWith : GoodIn wsL_law wsX5_goesWith := goodIn_r _ [695, 15, 115, 27, 237, 175, 696, 58, 59, 60, 697, 698, 699, 700, 701, 702, 703, 199, 200, 1120, 1121, 1122, 1123, 1124, 1125, 1126, 1127, 1128, 1129, 1130, 1131, 1132, 1163, 1164, 1165, 1166, 1167, 1168, 1169, 1170, 1171, 1172, 1173, 1174, 1175, 1176] (by decide +kernel) (by decide +kernel)
set_option maxRecDepth 20000 in
theorem gL_law_X5_goesWith : GoodIn wsL_law (wsV RL 96 RX5 yX5_goesWith wsX5_goesWith) := goodIn_app (goodIn_of _ (by decide +kernel)) ggL_law_X5_goesWith
set_option maxRecDepth 20000 in
theorem ggL_law_X6_goesWith : GoodIn wsL_law wsX6_goesWith := goodIn_r _ [707, 249, 250, 251, 5, 252, 134, 135, 136, 137, 88, 218, 219, 220, 708, 709, 710, 711, 94, 253, 254, 255, 256, 1133, 1134, 1135, 1136, 1137, 1138, 1139, 1140, 1141, 1142, 1143, 1144, 1145, 1146, 1147, 1148, 1149, 1150, 1151, 1152, 1153, 1154, 1155, 1156, 1157, 1158, 1159, 1160, 1161, 1162] (by decide +kernel) (by decide +kernel)
set_option maxRecDepth 20000 in
theorem gL_law_X6_goesWith : GoodIn wsL_law (wsV RL 99 RX6 yX6_goesWith wsX6_goesWith) := goodIn_app (goodIn_of _ (by decide +kernel)) ggL_law_X6_goesWith
set_option maxRecDepth 20000 in
theorem ggL_law_X5_roots : GoodIn wsL_law wsX5_roots := goodIn_r _ [715, 15, 115, 27, 237, 175, 116, 117, 118, 2, 119, 32, 696, 58, 59, 60, 716, 717, 718, 719, 658, 659, 700, 701, 702, 703, 199, 200, 1120, 1121, 1122, 1123, 1124, 1125, 1126, 1127, 1128, 1129, 1130, 1131, 1132, 1163, 1164, 1165, 1166, 1167, 1168, 1169, 1170, 1171, 1172, 1173, 1174, 1175, 1176] (by decide +kernel) (by decide +kernel)
set_option maxRecDepth 20000 in
theorem gL_law_X5_roots : GoodIn wsL_law (wsV RL 100 RX5 yX5_roots wsX5_roots) := goodIn_app (goodIn_of _ (by decide +kernel)) ggL_law_X5_roots
set_option maxRecDepth 20000 in
theorem ggL_law_X6_roots : GoodIn wsL_law wsX6_roots := goodIn_r _ [723, 125, 724, 127, 128, 5, 129, 130, 131, 132, 133, 92, 249, 250, 251, 252, 134, 135, 136, 137, 88, 218, 219, 220, 725, 726, 727, 728, 94, 253, 254, 255, 256, 1133, 1134, 1135, 1136, 1137, 1138, 1139, 1140, 1141, 1142, 1143, 1144, 1145, 1146, 1147, 1148, 1149, 1150, 1151, 1152, 1153, 1154, 1155, 1156, 1157, 1158, 1159, 1160, 1161, 1162] (by decide +kernel) (by decide +kernel)
set_option maxRecDepth 20000 in
theorem gL_law_X6_roots : GoodIn wsL_law (wsV RL 103 RX6 yX6_roots wsX6_roots) := goodIn_app (goodIn_of _ (by decide +kernel)) ggL_law_X6_roots
set_option maxRecDepth 20000 in
theorem ggL_law_X5_alike : GoodIn wsL_law wsX5_alike := goodIn_r _ [732, 15, 115, 27, 175, 233, 234, 235, 2, 236, 237, 116, 117, 118, 119, 32, 239, 240, 59, 241, 242, 243, 244, 733, 734, 735, 736, 572, 573, 1120, 1121, 1122, 1123, 1124, 1125, 1126, 1127, 1128, 1129, 1130, 1131, 1132, 1163, 1164, 1165, 1166, 1167, 1168, 1169, 1170, 1171, 1172, 1173, 1174, 1175, 1176] (by decide +kernel) (by decide +kernel)
set_option maxRecDepth 20000 in
theorem gL_law_X5_alike : GoodIn wsL_law (wsV RL 104 RX5 yX5_alike wsX5_alike) := goodIn_app (goodIn_of _ (by decide +kernel)) ggL_law_X5_alike
set_option maxRecDepth 20000 in
theorem ggL_law_X6_alike : GoodIn wsL_law wsX6_alike := goodIn_r _ [740, 741, 742, 743, 5, 744, 249, 250, 251, 252, 134, 135, 136, 137, 88, 218, 219, 220, 127, 128, 129, 130, 131, 132, 133, 92, 210, 211, 212, 213, 94, 745, 746, 747, 748, 582, 583, 584, 585, 253, 254, 255, 256, 1133, 1134, 1135, 1136, 1137, 1138, 1139, 1140, 1141, 1142, 1143, 1144, 1145, 1146, 1147, 1148, 1149, 1150, 1151, 1152, 1153, 1154, 1155, 1156, 1157, 1158, 1159, 1160, 1161, 1162] (by decide +kernel) (by decide +kernel)
set_option maxRecDepth 20000 in
theorem gL_law_X6_alike : GoodIn wsL_law (wsV RL 107 RX6 yX6_alike wsX6_alike) := goodIn_app (goodIn_of _ (by decide +kernel)) ggL_law_X6_alike
set_option maxRecDepth 20000 in
theorem ggL_law_X5_even : GoodIn wsL_law wsX5_even := goodIn_r _ [752, 15, 115, 175, 564, 565, 59, 566, 1120, 1121, 1122, 1123, 1124, 1125, 1126, 1127, 1128, 1129, 1130, 1131, 1132, 1163, 1164, 1165, 1166, 1167, 1168, 1169, 1170, 1171, 1172, 1173, 1174, 1175, 1176] (by decide +kernel) (by decide +kernel)
set_option maxRecDepth 20000 in
theorem gL_law_X5_even : GoodIn wsL_law (wsV RL 108 RX5 yX5_even wsX5_even) := goodIn_app (goodIn_of _ (by decide +kernel)) ggL_law_X5_even
set_option maxRecDepth 20000 in
theorem ggL_law_X6_even : GoodIn wsL_law wsX6_even := goodIn_r _ [756, 210, 211, 212, 5, 213, 94, 88, 134, 135, 136, 137, 578, 579, 580, 581, 1133, 1134, 1135, 1136, 1137, 1138, 1139, 1140, 1141, 1142, 1143, 1144, 1145, 1146, 1147, 1148, 1149, 1150, 1151, 1152, 1153, 1154, 1155, 1156, 1157, 1158, 1159, 1160, 1161, 1162] (by decide +kernel) (by decide +kernel)
set_option maxRecDepth 20000 in
theorem gL_law_X6_even : GoodIn wsL_law (wsV RL 111 RX6 yX6_even wsX6_even) := goodIn_app (goodIn_of _ (by decide +kernel)) ggL_law_X6_even
set_option maxRecDepth 20000 in
theorem ggL_law_X5_move : GoodIn wsL_law wsX5_move := goodIn_r _ [760, 15, 761, 233, 234, 235, 2, 236, 237, 115, 116, 117, 118, 119, 32, 300, 301, 302, 303, 34, 762, 475, 476, 14, 477, 55, 44, 1120, 1121, 1122, 1123, 1124, 1125, 1126, 1127, 1128, 1129, 1130, 1131, 1132, 1163, 1164, 1165, 1166, 1167, 1168, 1169, 1170, 1171, 1172, 1173, 1174, 1175, 1176] (by decide +kernel) (by decide +kernel)
set_option maxRecDepth 20000 in
theorem gL_law_X5_move : GoodIn wsL_law (wsV RL 112 RX5 yX5_move wsX5_move) := goodIn_app (goodIn_of _ (by decide +kernel)) ggL_law_X5_move
set_option maxRecDepth 20000 in
theorem ggL_law_X6_move : GoodIn wsL_law wsX6_move := goodIn_r _ [766, 88, 741, 742, 743, 5, 744, 249, 250, 251, 252, 134, 135, 136, 137, 218, 219, 220, 127, 128, 129, 130, 131, 132, 133, 92, 312, 313, 314, 315, 1133, 1134, 1135, 1136, 1137, 1138, 1139, 1140, 1141, 1142, 1143, 1144, 1145, 1146, 1147, 1148, 1149, 1150, 1151, 1152, 1153, 1154, 1155, 1156, 1157, 1158, 1159, 1160, 1161, 1162] (by decide +kernel) (by decide +kernel)
set_option maxRecDepth 20000 in
theorem gL_law_X6_move : GoodIn wsL_law (wsV RL 115 RX6 yX6_move wsX6_move) := goodIn_app (goodIn_of _ (by decide +kernel)) ggL_law_X6_move
set_option maxRecDepth 20000 in
theorem ggL_law_X5_drop : GoodIn wsL_law wsX5_drop := goodIn_r _ [770, 15, 761, 262, 263, 264, 2, 265, 33, 1120, 1121, 1122, 1123, 1124, 1125, 1126, 1127, 1128, 1129, 1130, 1131, 1132, 1163, 1164, 1165, 1166, 1167, 1168, 1169, 1170, 1171, 1172, 1173, 1174, 1175, 1176] (by decide +kernel) (by decide +kernel)
set_option maxRecDepth 20000 in
theorem gL_law_X5_drop : GoodIn wsL_law (wsV RL 116 RX5 yX5_drop wsX5_drop) := goodIn_app (goodIn_of _ (by decide +kernel)) ggL_law_X5_drop
set_option maxRecDepth 20000 in
theorem ggL_law_X6_drop : GoodIn wsL_law wsX6_drop := goodIn_r _ [774, 88, 275, 276, 277, 5, 278, 92, 1133, 1134, 1135, 1136, 1137, 1138, 1139, 1140, 1141, 1142, 1143, 1144, 1145, 1146, 1147, 1148, 1149, 1150, 1151, 1152, 1153, 1154, 1155, 1156, 1157, 1158, 1159, 1160, 1161, 1162] (by decide +kernel) (by decide +kernel)
set_option maxRecDepth 20000 in
theorem gL_law_X6_drop : GoodIn wsL_law (wsV RL 119 RX6 yX6_drop wsX6_drop) := goodIn_app (goodIn_of _ (by decide +kernel)) ggL_law_X6_drop
set_option maxRecDepth 20000 in
theorem ggL_law_X5_make : GoodIn wsL_law wsX5_make := goodIn_r _ [778, 15, 761, 27, 116, 117, 118, 2, 119, 32, 779, 780, 781, 14, 782, 51, 44, 46, 39, 180, 181, 182, 183, 783, 177, 178, 179, 56, 45, 184, 185, 186, 187, 188, 189, 59, 190, 191, 192, 193, 194, 195, 196, 197, 270, 240, 241, 242, 243, 244, 784, 785, 786, 238, 1120, 1121, 1122, 1123, 1124, 1125, 1126, 1127, 1128, 1129, 1130, 1131, 1132, 1163, 1164, 1165, 1166, 1167, 1168, 1169, 1170, 1171, 1172, 1173, 1174, 1175, 1176] (by decide +kernel) (by decide +kernel)
set_option maxRecDepth 20000 in
theorem gL_law_X5_make : GoodIn wsL_law (wsV RL 120 RX5 yX5_make wsX5_make) := goodIn_app (goodIn_of _ (by decide +kernel)) ggL_law_X5_make
set_option maxRecDepth 20000 in
theorem ggL_law_X6_make : GoodIn wsL_law wsX6_make := goodIn_r _ [790, 88, 205, 127, 128, 5, 129, 130, 131, 132, 133, 92, 206, 207, 208, 209, 210, 211, 212, 213, 94, 134, 135, 136, 137, 214, 215, 216, 217, 218, 219, 220, 791, 792, 793, 794, 97, 96, 253, 254, 255, 256, 225, 226, 227, 228, 1133, 1134, 1135, 1136, 1137, 1138, 1139, 1140, 1141, 1142, 1143, 1144, 1145, 1146, 1147, 1148, 1149, 1150, 1151, 1152, 1153, 1154, 1155, 1156, 1157, 1158, 1159, 1160, 1161, 1162] (by decide +kernel) (by decide +kernel)
set_option maxRecDepth 20000 in
theorem gL_law_X6_make : GoodIn wsL_law (wsV RL 123 RX6 yX6_make wsX6_make) := goodIn_app (goodIn_of _ (by decide +kernel)) ggL_law_X6_make
set_option maxRecDepth 20000 in
theorem ggL_law_X5_group : GoodIn wsL_law wsX5_group := goodIn_r _ [798, 799, 800, 801, 802, 2, 803, 29, 804, 805, 806, 15, 807, 808, 809, 810, 10, 11, 26, 811, 812, 813, 814, 815, 816, 817, 818, 819, 820, 821, 822, 823, 824, 825, 826, 827, 828, 181, 182, 183, 829, 830, 831, 832, 833, 185, 186, 14, 187, 39, 51, 188, 189, 59, 190, 191, 192, 193, 194, 195, 196, 197, 834, 240, 241, 242, 243, 244, 835, 62, 63, 64, 836, 837, 838, 839, 840, 785, 786, 841, 1187, 1188, 1189, 1190, 1191, 1192, 1193, 1194, 1195, 1120, 1121, 1122, 1123, 1124, 1125, 1126, 1127, 1128, 1129, 1130, 1131, 1132, 1163, 1164, 1165, 1166, 1167, 1168, 1169, 1170, 1171, 1172, 1173, 1174, 1175, 1176] (by decide +kernel) (by decide +kernel)
set_option maxRecDepth 20000 in
theorem gL_law_X5_group : GoodIn wsL_law (wsV RL 124 RX5 yX5_group wsX5_group) := goodIn_app (goodIn_of _ (by decide +kernel)) ggL_law_X5_group
set_option maxRecDepth 20000 in
theorem ggL_law_X6_group : GoodIn wsL_law wsX6_group := goodIn_r _ [845, 846, 847, 848, 849, 5, 850, 98, 851, 100, 99, 88, 249, 250, 251, 252, 134, 135, 136, 137, 218, 219, 220, 206, 207, 208, 209, 210, 211, 212, 213, 94, 214, 215, 216, 217, 852, 853, 854, 855, 253, 254, 255, 256, 791, 792, 793, 794, 97, 96, 1133, 1134, 1135, 1136, 1137, 1138, 1139, 1140, 1141, 1142, 1143, 1144, 1145, 1146, 1147, 1148, 1149, 1150, 1151, 1152, 1153, 1154, 1155, 1156, 1157, 1158, 1159, 1160, 1161, 1162] (by decide +kernel) (by decide +kernel)
set_option maxRecDepth 20000 in
theorem gL_law_X6_group : GoodIn wsL_law (wsV RL 127 RX6 yX6_group wsX6_group) := goodIn_app (goodIn_of _ (by decide +kernel)) ggL_law_X6_group
set_option maxRecDepth 20000 in
theorem ggL_law_X5_fewest : GoodIn wsL_law wsX5_fewest := goodIn_r _ [859, 233, 234, 235, 2, 236, 237, 15, 115, 567, 568, 569, 570, 32, 800, 801, 802, 803, 29, 804, 805, 806, 807, 808, 809, 810, 10, 11, 26, 811, 812, 813, 814, 815, 816, 817, 818, 819, 820, 821, 822, 823, 824, 825, 826, 827, 828, 181, 182, 183, 829, 830, 831, 832, 833, 185, 186, 14, 187, 39, 51, 188, 189, 59, 190, 191, 192, 193, 194, 195, 196, 197, 834, 240, 241, 242, 243, 244, 835, 62, 63, 64, 836, 837, 838, 839, 840, 785, 786, 841, 860, 861, 862, 863, 1120, 1121, 1122, 1123, 1124, 1125, 1126, 1127, 1128, 1129, 1130, 1131, 1132, 1163, 1164, 1165, 1166, 1167, 1168, 1169, 1170, 1171, 1172, 1173, 1174, 1175, 1176, 1187, 1188, 1189, 1190, 1191, 1192, 1193, 1194, 1195] (by decide +kernel) (by decide +kernel)
set_option maxRecDepth 20000 in
theorem gL_law_X5_fewest : GoodIn wsL_law (wsV RL 128 RX5 yX5_fewest wsX5_fewest) := goodIn_app (goodIn_of _ (by decide +kernel)) ggL_law_X5_fewest
set_option maxRecDepth 20000 in
theorem ggL_law_X6_fewest : GoodIn wsL_law wsX6_fewest := goodIn_r _ [867, 741, 742, 743, 5, 744, 249, 250, 251, 252, 134, 135, 136, 137, 88, 218, 219, 220, 127, 128, 129, 868, 869, 870, 871, 846, 99, 98, 100, 872, 847, 848, 849, 850, 851, 206, 207, 208, 209, 210, 211, 212, 213, 94, 214, 215, 216, 217, 852, 853, 854, 855, 253, 254, 255, 256, 791, 792, 793, 794, 97, 96, 873, 874, 875, 876, 649, 650, 651, 652, 619, 615, 616, 617, 618, 614, 95, 620, 621, 622, 623, 624, 625, 626, 627, 628, 629, 630, 631, 877, 878, 879, 880, 881, 882, 883, 884, 130, 131, 132, 133, 92, 1133, 1134, 1135, 1136, 1137, 1138, 1139, 1140, 1141, 1142, 1143, 1144, 1145, 1146, 1147, 1148, 1149, 1150, 1151, 1152, 1153, 1154, 1155, 1156, 1157, 1158, 1159, 1160, 1161, 1162] (by decide +kernel) (by decide +kernel)
set_option maxRecDepth 20000 in
theorem gL_law_X6_fewest : GoodIn wsL_law (wsV RL 131 RX6 yX6_fewest wsX6_fewest) := goodIn_app (goodIn_of _ (by decide +kernel)) ggL_law_X6_fewest
set_option maxRecDepth 20000 in
theorem ggL_law_X5_till : GoodIn wsL_law wsX5_till := goodIn_r _ [888, 799, 889, 27, 15, 115, 567, 568, 569, 2, 570, 32, 800, 801, 802, 803, 29, 804, 805, 806, 807, 808, 809, 810, 10, 11, 26, 811, 812, 813, 814, 815, 816, 817, 818, 819, 820, 821, 822, 823, 824, 825, 826, 827, 828, 181, 182, 183, 829, 830, 831, 832, 833, 185, 186, 14, 187, 39, 51, 188, 189, 59, 190, 191, 192, 193, 194, 195, 196, 197, 834, 240, 241, 242, 243, 244, 835, 62, 63, 64, 836, 837, 838, 839, 840, 785, 786, 841, 239, 890, 891, 892, 893, 894, 895, 896, 897, 157, 640, 641, 642, 643, 25, 644, 592, 593, 594, 24, 595, 81, 82, 83, 596, 597, 80, 598, 599, 600, 601, 602, 603, 604, 381, 605, 606, 607, 608, 609, 860, 861, 862, 863, 1187, 1188, 1189, 1190, 1191, 1192, 1193, 1194, 1195, 1120, 1121, 1122, 1123, 1124, 1125, 1126, 1127, 1128, 1129, 1130, 1131, 1132, 1163, 1164, 1165, 1166, 1167, 1168, 1169, 1170, 1171, 1172, 1173, 1174, 1175, 1176, 1183, 1184, 1185, 1186] (by decide +kernel) (by decide +kernel)
set_option maxRecDepth 20000 in
theorem gL_law_X5_till : GoodIn wsL_law (wsV RL 132 RX5 yX5_till wsX5_till) := goodIn_app (goodIn_of _ (by decide +kernel)) ggL_law_X5_till
set_option maxRecDepth 20000 in
theorem ggL_law_X6_till : GoodIn wsL_law wsX6_till := goodIn_r _ [901, 868, 869, 870, 5, 871, 846, 99, 98, 100, 88, 872, 847, 848, 849, 850, 851, 249, 250, 251, 252, 134, 135, 136, 137, 218, 219, 220, 206, 207, 208, 209, 210, 211, 212, 213, 94, 214, 215, 216, 217, 852, 853, 854, 855, 253, 254, 255, 256, 791, 792, 793, 794, 97, 96, 873, 874, 875, 876, 649, 650, 651, 652, 619, 615, 616, 617, 618, 614, 95, 620, 621, 622, 623, 624, 625, 626, 627, 628, 629, 630, 631, 877, 878, 879, 880, 881, 882, 883, 884, 130, 131, 132, 133, 92, 1133, 1134, 1135, 1136, 1137, 1138, 1139, 1140, 1141, 1142, 1143, 1144, 1145, 1146, 1147, 1148, 1149, 1150, 1151, 1152, 1153, 1154, 1155, 1156, 1157, 1158, 1159, 1160, 1161, 1162] (by decide +kernel) (by decide +kernel)
set_option maxRecDepth 20000 in
theorem gL_law_X6_till : GoodIn wsL_law (wsV RL 135 RX6 yX6_till wsX6_till) := goodIn_app (goodIn_of _ (by decide +kernel)) ggL_law_X6_till
set_option maxRecDepth 20000 in
theorem ggL_law_X5_mayBe : GoodIn wsL_law wsX5_mayBe := goodIn_r _ [905, 15, 115, 27, 237, 567, 568, 569, 2, 570, 32, 696, 58, 59, 60, 906, 907, 908, 909, 283, 299, 910, 25, 157, 644, 590, 911, 592, 593, 594, 24, 595, 81, 82, 83, 596, 597, 80, 598, 599, 600, 601, 602, 603, 604, 381, 605, 606, 607, 608, 609, 700, 701, 702, 703, 199, 200, 1120, 1121, 1122, 1123, 1124, 1125, 1126, 1127, 1128, 1129, 1130, 1131, 1132, 1163, 1164, 1165, 1166, 1167, 1168, 1169, 1170, 1171, 1172, 1173, 1174, 1175, 1176, 1183, 1184, 1185, 1186] (by decide +kernel) (by decide +kernel)
set_option maxRecDepth 20000 in
theorem gL_law_X5_mayBe : GoodIn wsL_law (wsV RL 136 RX5 yX5_mayBe wsX5_mayBe) := goodIn_app (goodIn_of _ (by decide +kernel)) ggL_law_X5_mayBe
set_option maxRecDepth 20000 in
theorem ggL_law_X6_mayBe : GoodIn wsL_law wsX6_mayBe := goodIn_r _ [915, 130, 131, 132, 5, 133, 92, 249, 250, 251, 252, 134, 135, 136, 137, 88, 218, 219, 220, 253, 254, 255, 256, 94, 916, 917, 918, 919, 619, 614, 615, 616, 617, 618, 95, 620, 621, 622, 623, 624, 625, 626, 627, 628, 629, 630, 631, 1133, 1134, 1135, 1136, 1137, 1138, 1139, 1140, 1141, 1142, 1143, 1144, 1145, 1146, 1147, 1148, 1149, 1150, 1151, 1152, 1153, 1154, 1155, 1156, 1157, 1158, 1159, 1160, 1161, 1162] (by decide +kernel) (by decide +kernel)
set_option maxRecDepth 20000 in
theorem gL_law_X6_mayBe : GoodIn wsL_law (wsV RL 139 RX6 yX6_mayBe wsX6_mayBe) := goodIn_app (goodIn_of _ (by decide +kernel)) ggL_law_X6_mayBe
set_option maxRecDepth 20000 in
theorem ggL_law_X5_chance : GoodIn wsL_law wsX5_chance := goodIn_r _ [923, 15, 115, 27, 237, 116, 117, 118, 2, 119, 32, 696, 58, 59, 60, 906, 907, 908, 909, 283, 299, 910, 25, 157, 644, 590, 911, 592, 593, 594, 24, 595, 81, 82, 83, 596, 597, 80, 598, 599, 600, 601, 602, 603, 604, 381, 605, 606, 607, 608, 609, 894, 895, 896, 897, 640, 641, 642, 643, 700, 701, 702, 703, 199, 200, 262, 263, 264, 265, 33, 924, 925, 926, 927, 30, 31, 674, 675, 676, 677, 678, 679, 1120, 1121, 1122, 1123, 1124, 1125, 1126, 1127, 1128, 1129, 1130, 1131, 1132, 1163, 1164, 1165, 1166, 1167, 1168, 1169, 1170, 1171, 1172, 1173, 1174, 1175, 1176, 1183, 1184, 1185, 1186] (by decide +kernel) (by decide +kernel)
set_option maxRecDepth 20000 in
theorem gL_law_X5_chance : GoodIn wsL_law (wsV RL 140 RX5 yX5_chance wsX5_chance) := goodIn_app (goodIn_of _ (by decide +kernel)) ggL_law_X5_chance
set_option maxRecDepth 20000 in
theorem ggL_law_X6_chance : GoodIn wsL_law wsX6_chance := goodIn_r _ [931, 877, 878, 879, 5, 880, 134, 135, 136, 137, 88, 127, 128, 129, 130, 131, 132, 133, 92, 249, 250, 251, 252, 218, 219, 220, 253, 254, 255, 256, 94, 916, 917, 918, 919, 619, 614, 615, 616, 617, 618, 95, 620, 621, 622, 623, 624, 625, 626, 627, 628, 629, 630, 631, 649, 650, 651, 652, 275, 276, 277, 278, 932, 933, 934, 935, 936, 93, 1133, 1134, 1135, 1136, 1137, 1138, 1139, 1140, 1141, 1142, 1143, 1144, 1145, 1146, 1147, 1148, 1149, 1150, 1151, 1152, 1153, 1154, 1155, 1156, 1157, 1158, 1159, 1160, 1161, 1162] (by decide +kernel) (by decide +kernel)
set_option maxRecDepth 20000 in
theorem gL_law_X6_chance : GoodIn wsL_law (wsV RL 143 RX6 yX6_chance wsX6_chance) := goodIn_app (goodIn_of _ (by decide +kernel)) ggL_law_X6_chance
set_option maxRecDepth 20000 in
theorem ggL_law_X5_look : GoodIn wsL_law wsX5_look := goodIn_r _ [940, 15, 115, 283, 941, 942, 943, 2, 944, 28, 27, 237, 327, 62, 63, 64, 696, 58, 59, 60, 906, 907, 908, 909, 299, 910, 25, 157, 644, 590, 911, 592, 593, 594, 24, 595, 81, 82, 83, 596, 597, 80, 598, 599, 600, 601, 602, 603, 604, 381, 605, 606, 607, 608, 609, 700, 701, 702, 703, 199, 200, 262, 263, 264, 265, 33, 945, 946, 947, 948, 924, 925, 926, 927, 30, 31, 674, 675, 676, 677, 678, 679, 1120, 1121, 1122, 1123, 1124, 1125, 1126, 1127, 1128, 1129, 1130, 1131, 1132, 1163, 1164, 1165, 1166, 1167, 1168, 1169, 1170, 1171, 1172, 1173, 1174, 1175, 1176, 1183, 1184, 1185, 1186] (by decide +kernel) (by decide +kernel)
set_option maxRecDepth 20000 in
theorem gL_law_X5_look : GoodIn wsL_law (wsV RL 144 RX5 yX5_look wsX5_look) := goodIn_app (goodIn_of _ (by decide +kernel)) ggL_law_X5_look
set_option maxRecDepth 20000 in
theorem ggL_law_X6_look : GoodIn wsL_law wsX6_look := goodIn_r _ [952, 101, 94, 953, 88, 249, 250, 251, 5, 252, 134, 135, 136, 137, 218, 219, 220, 253, 254, 255, 256, 916, 917, 918, 919, 619, 614, 615, 616, 617, 618, 95, 620, 621, 622, 623, 624, 625, 626, 627, 628, 629, 630, 631, 275, 276, 277, 278, 92, 932, 933, 934, 935, 936, 93, 1133, 1134, 1135, 1136, 1137, 1138, 1139, 1140, 1141, 1142, 1143, 1144, 1145, 1146, 1147, 1148, 1149, 1150, 1151, 1152, 1153, 1154, 1155, 1156, 1157, 1158, 1159, 1160, 1161, 1162] (by decide +kernel) (by decide +kernel)
set_option maxRecDepth 20000 in
theorem gL_law_X6_look : GoodIn wsL_law (wsV RL 147 RX6 yX6_look wsX6_look) := goodIn_app (goodIn_of _ (by decide +kernel)) ggL_law_X6_look
set_option maxRecDepth 20000 in
theorem ggL_law_X5_advice : GoodIn wsL_law wsX5_advice := goodIn_r _ [957, 28, 958, 959, 960, 2, 961, 15, 115, 27, 237, 327, 62, 63, 64, 696, 58, 59, 60, 906, 907, 908, 909, 283, 299, 910, 25, 157, 644, 590, 911, 592, 593, 594, 24, 595, 81, 82, 83, 596, 597, 80, 598, 599, 600, 601, 602, 603, 604, 381, 605, 606, 607, 608, 609, 962, 963, 964, 965, 640, 641, 642, 643, 700, 701, 702, 703, 199, 200, 262, 263, 264, 265, 33, 924, 925, 926, 927, 30, 31, 674, 675, 676, 677, 678, 679, 1120, 1121, 1122, 1123, 1124, 1125, 1126, 1127, 1128, 1129, 1130, 1131, 1132, 1163, 1164, 1165, 1166, 1167, 1168, 1169, 1170, 1171, 1172, 1173, 1174, 1175, 1176, 1183, 1184, 1185, 1186] (by decide +kernel) (by decide +kernel)
set_option maxRecDepth 20000 in
theorem gL_law_X5_advice : GoodIn wsL_law (wsV RL 148 RX5 yX5_advice wsX5_advice) := goodIn_app (goodIn_of _ (by decide +kernel)) ggL_law_X5_advice
set_option maxRecDepth 20000 in
theorem ggL_law_X6_advice : GoodIn wsL_law wsX6_advice := goodIn_r _ [969, 102, 970, 971, 972, 5, 973, 103, 88, 249, 250, 251, 252, 134, 135, 136, 137, 218, 219, 220, 253, 254, 255, 256, 94, 916, 917, 918, 919, 619, 614, 615, 616, 617, 618, 95, 620, 621, 622, 623, 624, 625, 626, 627, 628, 629, 630, 631, 974, 975, 976, 977, 649, 650, 651, 652, 877, 878, 879, 880, 978, 979, 980, 981, 275, 276, 277, 278, 92, 932, 933, 934, 935, 936, 93, 1133, 1134, 1135, 1136, 1137, 1138, 1139, 1140, 1141, 1142, 1143, 1144, 1145, 1146, 1147, 1148, 1149, 1150, 1151, 1152, 1153, 1154, 1155, 1156, 1157, 1158, 1159, 1160, 1161, 1162] (by decide +kernel) (by decide +kernel)
set_option maxRecDepth 20000 in
theorem gL_law_X6_advice : GoodIn wsL_law (wsV RL 151 RX6 yX6_advice wsX6_advice) := goodIn_app (goodIn_of _ (by decide +kernel)) ggL_law_X6_advice
set_option maxRecDepth 20000 in
theorem ggL_law_X5_worst : GoodIn wsL_law wsX5_worst := goodIn_r _ [985, 15, 115, 27, 237, 116, 117, 118, 2, 119, 32, 696, 58, 59, 60, 906, 907, 908, 909, 283, 299, 910, 25, 157, 644, 590, 911, 592, 593, 594, 24, 595, 81, 82, 83, 596, 597, 80, 598, 599, 600, 601, 602, 603, 604, 381, 605, 606, 607, 608, 609, 636, 637, 638, 639, 640, 641, 642, 643, 986, 192, 193, 194, 195, 196, 197, 700, 701, 702, 703, 199, 200, 262, 263, 264, 265, 33, 1120, 1121, 1122, 1123, 1124, 1125, 1126, 1127, 1128, 1129, 1130, 1131, 1132, 1163, 1164, 1165, 1166, 1167, 1168, 1169, 1170, 1171, 1172, 1173, 1174, 1175, 1176, 1183, 1184, 1185, 1186] (by decide +kernel) (by decide +kernel)
set_option maxRecDepth 20000 in
theorem gL_law_X5_worst : GoodIn wsL_law (wsV RL 152 RX5 yX5_worst wsX5_worst) := goodIn_app (goodIn_of _ (by decide +kernel)) ggL_law_X5_worst
set_option maxRecDepth 20000 in
theorem ggL_law_X6_worst : GoodIn wsL_law wsX6_worst := goodIn_r _ [990, 851, 127, 128, 5, 129, 130, 131, 132, 133, 92, 249, 250, 251, 252, 134, 135, 136, 137, 88, 218, 219, 220, 253, 254, 255, 256, 94, 916, 917, 918, 919, 619, 614, 615, 616, 617, 618, 95, 620, 621, 622, 623, 624, 625, 626, 627, 628, 629, 630, 631, 649, 650, 651, 652, 991, 992, 993, 275, 276, 277, 278, 1133, 1134, 1135, 1136, 1137, 1138, 1139, 1140, 1141, 1142, 1143, 1144, 1145, 1146, 1147, 1148, 1149, 1150, 1151, 1152, 1153, 1154, 1155, 1156, 1157, 1158, 1159, 1160, 1161, 1162] (by decide +kernel) (by decide +kernel)
set_option maxRecDepth 20000 in
theorem gL_law_X6_worst : GoodIn wsL_law (wsV RL 155 RX6 yX6_worst wsX6_worst) := goodIn_app (goodIn_of _ (by decide +kernel)) ggL_law_X6_worst
set_option maxRecDepth 20000 in
theorem ggL_law_X5_mended : GoodIn wsL_law wsX5_mended := goodIn_r _ [997, 15, 115, 27, 237, 175, 696, 58, 59, 60, 890, 891, 892, 2, 893, 894, 895, 896, 897, 157, 640, 641, 642, 643, 25, 644, 592, 593, 594, 24, 595, 81, 82, 83, 596, 597, 80, 598, 599, 600, 601, 602, 603, 604, 381, 605, 606, 607, 608, 609, 998, 999, 1000, 1001, 1002, 1003, 700, 701, 702, 703, 199, 200, 1120, 1121, 1122, 1123, 1124, 1125, 1126, 1127, 1128, 1129, 1130, 1131, 1132, 1163, 1164, 1165, 1166, 1167, 1168, 1169, 1170, 1171, 1172, 1173, 1174, 1175, 1176, 1183, 1184, 1185, 1186] (by decide +kernel) (by decide +kernel)
set_option maxRecDepth 20000 in
theorem gL_law_X5_mended : GoodIn wsL_law (wsV RL 156 RX5 yX5_mended wsX5_mended) := goodIn_app (goodIn_of _ (by decide +kernel)) ggL_law_X5_mended
set_option maxRecDepth 20000 in
theorem ggL_law_X6_mended : GoodIn wsL_law wsX6_mended := goodIn_r _ [1007, 851, 249, 250, 251, 5, 252, 134, 135, 136, 137, 88, 218, 219, 220, 253, 254, 255, 256, 94, 1008, 1009, 1010, 1011, 104, 649, 650, 651, 652, 619, 615, 616, 617, 618, 614, 95, 620, 621, 622, 623, 624, 625, 626, 627, 628, 629, 630, 631, 877, 878, 879, 880, 1133, 1134, 1135, 1136, 1137, 1138, 1139, 1140, 1141, 1142, 1143, 1144, 1145, 1146, 1147, 1148, 1149, 1150, 1151, 1152, 1153, 1154, 1155, 1156, 1157, 1158, 1159, 1160, 1161, 1162] (by decide +kernel) (by decide +kernel)
set_option maxRecDepth 20000 in
theorem gL_law_X6_mended : GoodIn wsL_law (wsV RL 159 RX6 yX6_mended wsX6_mended) := goodIn_app (goodIn_of _ (by decide +kernel)) ggL_law_X6_mended
set_option maxRecDepth 20000 in
theorem ggL_law_X5_third : GoodIn wsL_law wsX5_third := goodIn_r _ [1015, 15, 115, 175, 27, 1016, 181, 182, 183, 116, 117, 118, 2, 119, 32, 636, 637, 638, 639, 157, 640, 641, 642, 643, 25, 644, 592, 593, 594, 24, 595, 81, 82, 83, 596, 597, 80, 598, 599, 600, 601, 602, 603, 604, 381, 605, 606, 607, 608, 609, 986, 192, 193, 194, 195, 196, 197, 198, 199, 59, 200, 1120, 1121, 1122, 1123, 1124, 1125, 1126, 1127, 1128, 1129, 1130, 1131, 1132, 1163, 1164, 1165, 1166, 1167, 1168, 1169, 1170, 1171, 1172, 1173, 1174, 1175, 1176, 1183, 1184, 1185, 1186] (by decide +kernel) (by decide +kernel)
set_option maxRecDepth 20000 in
theorem gL_law_X5_third : GoodIn wsL_law (wsV RL 160 RX5 yX5_third wsX5_third) := goodIn_app (goodIn_of _ (by decide +kernel)) ggL_law_X5_third
set_option maxRecDepth 20000 in
theorem ggL_law_X6_third : GoodIn wsL_law wsX6_third := goodIn_r _ [1020, 127, 128, 5, 129, 130, 131, 132, 133, 92, 210, 211, 212, 213, 94, 88, 134, 135, 136, 137, 649, 650, 651, 652, 619, 615, 616, 617, 618, 614, 95, 620, 621, 622, 623, 624, 625, 626, 627, 628, 629, 630, 631, 991, 992, 993, 221, 222, 223, 224, 1133, 1134, 1135, 1136, 1137, 1138, 1139, 1140, 1141, 1142, 1143, 1144, 1145, 1146, 1147, 1148, 1149, 1150, 1151, 1152, 1153, 1154, 1155, 1156, 1157, 1158, 1159, 1160, 1161, 1162] (by decide +kernel) (by decide +kernel)
set_option maxRecDepth 20000 in
theorem gL_law_X6_third : GoodIn wsL_law (wsV RL 163 RX6 yX6_third wsX6_third) := goodIn_app (goodIn_of _ (by decide +kernel)) ggL_law_X6_third
set_option maxRecDepth 20000 in
theorem ggL_law_X5_laid : GoodIn wsL_law wsX5_laid := goodIn_r _ [1024, 1025, 27, 15, 115, 116, 117, 118, 2, 119, 32, 1026, 1027, 59, 1028, 1029, 1030, 1031, 1032, 1033, 58, 60, 703, 199, 200, 660, 189, 190, 191, 192, 193, 194, 195, 196, 197, 1120, 1121, 1122, 1123, 1124, 1125, 1126, 1127, 1128, 1129, 1130, 1131, 1132, 1163, 1164, 1165, 1166, 1167, 1168, 1169, 1170, 1171, 1172, 1173, 1174, 1175, 1176] (by decide +kernel) (by decide +kernel)
set_option maxRecDepth 20000 in
theorem gL_law_X5_laid : GoodIn wsL_law (wsV RL 164 RX5 yX5_laid wsX5_laid) := goodIn_app (goodIn_of _ (by decide +kernel)) ggL_law_X5_laid
set_option maxRecDepth 20000 in
theorem ggL_law_X6_laid : GoodIn wsL_law wsX6_laid := goodIn_r _ [1037, 1038, 1039, 5, 1040, 1041, 127, 128, 129, 130, 131, 132, 133, 92, 1042, 1043, 1044, 1045, 94, 1046, 1047, 1048, 1049, 134, 135, 136, 137, 88, 221, 222, 223, 224, 214, 215, 216, 217, 218, 219, 220, 1133, 1134, 1135, 1136, 1137, 1138, 1139, 1140, 1141, 1142, 1143, 1144, 1145, 1146, 1147, 1148, 1149, 1150, 1151, 1152, 1153, 1154, 1155, 1156, 1157, 1158, 1159, 1160, 1161, 1162] (by decide +kernel) (by decide +kernel)
set_option maxRecDepth 20000 in
theorem gL_law_X6_laid : GoodIn wsL_law (wsV RL 167 RX6 yX6_laid wsX6_laid) := goodIn_app (goodIn_of _ (by decide +kernel)) ggL_law_X6_laid
set_option maxRecDepth 20000 in
theorem ggL_law_X5_lucky : GoodIn wsL_law wsX5_lucky := goodIn_r _ [1053, 1025, 27, 15, 115, 116, 117, 118, 2, 119, 32, 1026, 1027, 59, 1028, 1029, 1030, 1031, 1032, 1033, 58, 60, 703, 199, 200, 890, 891, 892, 893, 894, 895, 896, 897, 157, 640, 641, 642, 643, 25, 644, 592, 593, 594, 24, 595, 81, 82, 83, 596, 597, 80, 598, 599, 600, 601, 602, 603, 604, 381, 605, 606, 607, 608, 609, 1120, 1121, 1122, 1123, 1124, 1125, 1126, 1127, 1128, 1129, 1130, 1131, 1132, 1163, 1164, 1165, 1166, 1167, 1168, 1169, 1170, 1171, 1172, 1173, 1174, 1175, 1176, 1183, 1184, 1185, 1186] (by decide +kernel) (by decide +kernel)
set_option maxRecDepth 20000 in
theorem gL_law_X5_lucky : GoodIn wsL_law (wsV RL 168 RX5 yX5_lucky wsX5_lucky) := goodIn_app (goodIn_of _ (by decide +kernel)) ggL_law_X5_lucky
set_option maxRecDepth 20000 in
theorem ggL_law_X6_lucky : GoodIn wsL_law wsX6_lucky := goodIn_r _ [1057, 1058, 1038, 1039, 5, 1040, 1041, 127, 128, 129, 130, 131, 132, 133, 92, 1042, 1043, 1044, 1045, 94, 1046, 1047, 1048, 1049, 134, 135, 136, 137, 88, 221, 222, 223, 224, 649, 650, 651, 652, 619, 615, 616, 617, 618, 614, 95, 620, 621, 622, 623, 624, 625, 626, 627, 628, 629, 630, 631, 877, 878, 879, 880, 1133, 1134, 1135, 1136, 1137, 1138, 1139, 1140, 1141, 1142, 1143, 1144, 1145, 1146, 1147, 1148, 1149, 1150, 1151, 1152, 1153, 1154, 1155, 1156, 1157, 1158, 1159, 1160, 1161, 1162] (by decide +kernel) (by decide +kernel)
set_option maxRecDepth 20000 in
theorem gL_law_X6_lucky : GoodIn wsL_law (wsV RL 171 RX6 yX6_lucky wsX6_lucky) := goodIn_app (goodIn_of _ (by decide +kernel)) ggL_law_X6_lucky
set_option maxRecDepth 20000 in
theorem ggL_law_X5_part : GoodIn wsL_law wsX5_part := goodIn_r _ [1062, 30, 31, 116, 117, 118, 2, 119, 32, 1120, 1121, 1122, 1123, 1124, 1125, 1126, 1127, 1128, 1129, 1130, 1131, 1132] (by decide +kernel) (by decide +kernel)
set_option maxRecDepth 20000 in
theorem gL_law_X5_part : GoodIn wsL_law (wsV RL 172 RX5 yX5_part wsX5_part) := goodIn_app (goodIn_of _ (by decide +kernel)) ggL_law_X5_part
set_option maxRecDepth 20000 in
theorem ggL_law_X6_part : GoodIn wsL_law wsX6_part := goodIn_r _ [1066, 936, 93, 130, 131, 132, 5, 133, 92, 1133, 1134, 1135, 1136, 1137, 1138, 1139, 1140, 1141, 1142, 1143, 1144, 1145, 1146, 1147, 1148, 1149, 1150, 1151, 1152, 1153, 1154, 1155, 1156, 1157, 1158, 1159, 1160, 1161, 1162] (by decide +kernel) (by decide +kernel)
set_option maxRecDepth 20000 in
theorem gL_law_X6_part : GoodIn wsL_law (wsV RL 176 RX6 yX6_part wsX6_part) := goodIn_app (goodIn_of _ (by decide +kernel)) ggL_law_X6_part
set_option maxRecDepth 20000 in
theorem ggL_law_X5_image : GoodIn wsL_law wsX5_image := goodIn_r _ [1070, 17, 12, 13, 14, 15, 116, 117, 118, 2, 119, 32, 35, 36, 37, 38, 10, 11, 26, 39, 40, 41, 42, 43, 44, 45, 46, 47, 48, 49, 50, 51, 52, 53, 54, 55, 56, 57, 58, 59, 60, 61, 62, 63, 64, 478, 479, 480, 481, 180, 181, 182, 183, 1120, 1121, 1122, 1123, 1124, 1125, 1126, 1127, 1128, 1129, 1130, 1131, 1132, 1163, 1164, 1165, 1166, 1167, 1168, 1169, 1170, 1171, 1172, 1173, 1174, 1175, 1176] (by decide +kernel) (by decide +kernel)
set_option maxRecDepth 20000 in
theorem gL_law_X5_image : GoodIn wsL_law (wsV RL 177 RX5 yX5_image wsX5_image) := goodIn_app (goodIn_of _ (by decide +kernel)) ggL_law_X5_image
set_option maxRecDepth 20000 in
theorem ggL_law_X6_image : GoodIn wsL_law wsX6_image := goodIn_r _ [1074, 89, 88, 91, 127, 128, 5, 129, 130, 131, 132, 133, 92, 1133, 1134, 1135, 1136, 1137, 1138, 1139, 1140, 1141, 1142, 1143, 1144, 1145, 1146, 1147, 1148, 1149, 1150, 1151, 1152, 1153, 1154, 1155, 1156, 1157, 1158, 1159, 1160, 1161, 1162] (by decide +kernel) (by decide +kernel)
set_option maxRecDepth 20000 in
theorem gL_law_X6_image : GoodIn wsL_law (wsV RL 180 RX6 yX6_image wsX6_image) := goodIn_app (goodIn_of _ (by decide +kernel)) ggL_law_X6_image
set_option maxRecDepth 20000 in
theorem ggL_law_X5_from : GoodIn wsL_law wsX5_from := goodIn_r _ [1078, 17, 15, 116, 117, 118, 2, 119, 32, 262, 263, 264, 265, 33, 478, 479, 480, 14, 481, 51, 52, 53, 39, 180, 181, 182, 183, 40, 41, 54, 42, 43, 55, 44, 56, 45, 1120, 1121, 1122, 1123, 1124, 1125, 1126, 1127, 1128, 1129, 1130, 1131, 1132, 1163, 1164, 1165, 1166, 1167, 1168, 1169, 1170, 1171, 1172, 1173, 1174, 1175, 1176] (by decide +kernel) (by decide +kernel)
set_option maxRecDepth 20000 in
theorem gL_law_X5_from : GoodIn wsL_law (wsV RL 181 RX5 yX5_from wsX5_from) := goodIn_app (goodIn_of _ (by decide +kernel)) ggL_law_X5_from
set_option maxRecDepth 20000 in
theorem ggL_law_X6_from : GoodIn wsL_law wsX6_from := goodIn_r _ [1082, 91, 88, 89, 127, 128, 5, 129, 130, 131, 132, 133, 92, 275, 276, 277, 278, 1133, 1134, 1135, 1136, 1137, 1138, 1139, 1140, 1141, 1142, 1143, 1144, 1145, 1146, 1147, 1148, 1149, 1150, 1151, 1152, 1153, 1154, 1155, 1156, 1157, 1158, 1159, 1160, 1161, 1162] (by decide +kernel) (by decide +kernel)
set_option maxRecDepth 20000 in
theorem gL_law_X6_from : GoodIn wsL_law (wsV RL 184 RX6 yX6_from wsX6_from) := goodIn_app (goodIn_of _ (by decide +kernel)) ggL_law_X6_from
set_option maxRecDepth 20000 in
theorem ggL_law_X5_status : GoodIn wsL_law wsX5_status := goodIn_r _ [1086, 32, 33, 34, 116, 117, 118, 2, 119, 1120, 1121, 1122, 1123, 1124, 1125, 1126, 1127, 1128, 1129, 1130, 1131, 1132] (by decide +kernel) (by decide +kernel)
set_option maxRecDepth 20000 in
theorem gL_law_X5_status : GoodIn wsL_law (wsV RL 185 RX5 yX5_status wsX5_status) := goodIn_app (goodIn_of _ (by decide +kernel)) ggL_law_X5_status
set_option maxRecDepth 20000 in
theorem ggL_law_X6_status : GoodIn wsL_law wsX6_status := goodIn_r _ [1090, 125, 92, 127, 128, 5, 129, 130, 131, 132, 133, 1133, 1134, 1135, 1136, 1137, 1138, 1139, 1140, 1141, 1142, 1143, 1144, 1145, 1146, 1147, 1148, 1149, 1150, 1151, 1152, 1153, 1154, 1155, 1156, 1157, 1158, 1159, 1160, 1161, 1162] (by decide +kernel) (by decide +kernel)
set_option maxRecDepth 20000 in
theorem gL_law_X6_status : GoodIn wsL_law (wsV RL 188 RX6 yX6_status wsX6_status) := goodIn_app (goodIn_of _ (by decide +kernel)) ggL_law_X6_status
set_option maxRecDepth 20000 in
theorem ggL_law_X5_count : GoodIn wsL_law wsX5_count := goodIn_r _ [1094, 116, 117, 118, 2, 119, 32, 1095, 1096, 1097, 1098, 15, 115, 147, 142, 299, 261, 21, 340, 761, 323, 324, 325, 14, 326, 51, 40, 1120, 1121, 1122, 1123, 1124, 1125, 1126, 1127, 1128, 1129, 1130, 1131, 1132, 1163, 1164, 1165, 1166, 1167, 1168, 1169, 1170, 1171, 1172, 1173, 1174, 1175, 1176, 1177, 1178, 1179, 1180, 1181, 1182] (by decide +kernel) (by decide +kernel)
set_option maxRecDepth 20000 in
theorem gL_law_X5_count : GoodIn wsL_law (wsV RL 189 RX5 yX5_count wsX5_count) := goodIn_app (goodIn_of _ (by decide +kernel)) ggL_law_X5_count
set_option maxRecDepth 20000 in
theorem ggL_law_X6_count : GoodIn wsL_law wsX6_count := goodIn_r _ [1102, 126, 127, 128, 5, 129, 1103, 1104, 1105, 1106, 88, 347, 332, 333, 334, 335, 134, 135, 136, 137, 130, 131, 132, 133, 92, 1133, 1134, 1135, 1136, 1137, 1138, 1139, 1140, 1141, 1142, 1143, 1144, 1145, 1146, 1147, 1148, 1149, 1150, 1151, 1152, 1153, 1154, 1155, 1156, 1157, 1158, 1159, 1160, 1161, 1162] (by decide +kernel) (by decide +kernel)
set_option maxRecDepth 20000 in
theorem gL_law_X6_count : GoodIn wsL_law (wsV RL 192 RX6 yX6_count wsX6_count) := goodIn_app (goodIn_of _ (by decide +kernel)) ggL_law_X6_count
set_option maxRecDepth 20000 in
theorem ggL_law_X5_digest : GoodIn wsL_law wsX5_digest := goodIn_r _ [1110, 1111, 1112, 15, 115, 175, 283, 157, 299, 910, 911, 761, 1113, 30, 31, 1095, 1096, 1097, 2, 1098, 147, 142, 261, 21, 340, 323, 324, 325, 14, 326, 51, 40, 1120, 1121, 1122, 1123, 1124, 1125, 1126, 1127, 1128, 1129, 1130, 1131, 1132, 1163, 1164, 1165, 1166, 1167, 1168, 1169, 1170, 1171, 1172, 1173, 1174, 1175, 1176, 1177, 1178, 1179, 1180, 1181, 1182] (by decide +kernel) (by decide +kernel)
set_option maxRecDepth 20000 in
theorem gL_law_X5_digest : GoodIn wsL_law (wsV RL 193 RX5 yX5_digest wsX5_digest) := goodIn_app (goodIn_of _ (by decide +kernel)) ggL_law_X5_digest
set_option maxRecDepth 20000 in
theorem ggL_law_X6_digest : GoodIn wsL_law wsX6_digest := goodIn_r _ [1117, 1118, 1119, 88, 936, 93, 1103, 1104, 1105, 5, 1106, 347, 332, 333, 334, 335, 134, 135, 136, 137, 1133, 1134, 1135, 1136, 1137, 1138, 1139, 1140, 1141, 1142, 1143, 1144, 1145, 1146, 1147, 1148, 1149, 1150, 1151, 1152, 1153, 1154, 1155, 1156, 1157, 1158, 1159, 1160, 1161, 1162] (by decide +kernel) (by decide +kernel)
set_option maxRecDepth 20000 in
theorem gL_law_X6_digest : GoodIn wsL_law (wsV RL 197 RX6 yX6_digest wsX6_digest) := goodIn_app (goodIn_of _ (by decide +kernel)) ggL_law_X6_digest
