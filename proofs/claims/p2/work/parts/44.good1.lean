set_option maxRecDepth 20000 in
theorem gw_wsX6_init : wsX6_init.all goodWord = true := by decide +kernel
set_option maxRecDepth 20000 in
theorem ggL_law_X6_init : GoodIn wsL_law wsX6_init := goodIn_r _ [8, 9, 10, 11, 12, 13, 14, 15, 16, 17, 18, 19, 20, 21, 22, 23, 24, 25, 26, 27, 28, 29, 30, 31, 32, 33, 34, 35, 36, 37, 38, 39, 40, 41, 42, 43, 44, 45, 46, 47, 48, 49, 50, 51, 52, 53, 54, 55, 56, 57, 58, 59, 60, 61, 62, 63, 64, 65, 66, 67, 68, 69, 70, 71, 72, 73, 74, 75, 76, 77, 78, 79, 80, 1148, 1149, 1150, 1151, 1152, 1153, 1154, 1155, 1156, 1157, 1158, 1159, 1160, 1161, 1162, 1194, 1195, 1196, 1197, 1198, 1199, 1200, 1201, 1202, 1203, 1204, 1205, 1206, 1207, 1208, 1209, 1210, 1211, 1212, 1213, 1214, 1215, 1216, 1217, 1218, 1219, 1220, 1221, 1222, 1223, 1224, 1225, 1226, 1227, 1228, 1229, 1230, 1231] rfl gw_wsX6_init
set_option maxRecDepth 20000 in
theorem gw_wsX6_stall : wsX6_stall.all goodWord = true := by decide +kernel
set_option maxRecDepth 20000 in
theorem ggL_law_X6_stall : GoodIn wsL_law wsX6_stall := goodIn_r _ [106, 107, 29, 108, 109, 110, 111, 2, 112, 113, 114, 115, 24, 116, 117, 118, 48, 119, 120, 121, 122, 1148, 1149, 1150, 1151, 1152, 1153, 1154, 1155, 1156, 1157, 1158, 1159, 1160, 1161, 1162, 1199, 1200, 1201, 1202, 1203, 1204, 1205, 1206, 1207, 1208, 1209, 1210, 1211, 1212, 1228, 1229, 1230, 1231] rfl gw_wsX6_stall
set_option maxRecDepth 20000 in
theorem gw_wsX6_told : wsX6_told.all goodWord = true := by decide +kernel
set_option maxRecDepth 20000 in
theorem ggL_law_X6_told : GoodIn wsL_law wsX6_told := goodIn_r _ [146, 107, 29, 147, 148, 149, 150, 151, 152, 153, 154, 2, 155, 108, 110, 111, 112, 156, 157, 158, 24, 159, 121, 120, 160, 161, 162, 163, 164, 165, 166, 167, 168, 169, 170, 171, 172, 51, 173, 174, 175, 176, 177, 178, 179, 180, 57, 181, 182, 183, 184, 185, 186, 50, 55, 122, 187, 188, 189, 190, 191, 192, 193, 194, 195, 196, 22, 197, 198, 41, 42, 199, 200, 201, 202, 203, 204, 205, 206, 207, 208, 209, 210, 211, 212, 213, 214, 215, 216, 217, 1148, 1149, 1150, 1151, 1152, 1153, 1154, 1155, 1156, 1157, 1158, 1159, 1160, 1161, 1162, 1199, 1200, 1201, 1202, 1203, 1204, 1205, 1206, 1207, 1208, 1209, 1210, 1211, 1212, 1228, 1229, 1230, 1231, 1194, 1195, 1196, 1197, 1198] rfl gw_wsX6_told
set_option maxRecDepth 20000 in
theorem gw_wsX6_as : wsX6_as.all goodWord = true := by decide +kernel
set_option maxRecDepth 20000 in
theorem ggL_law_X6_as : GoodIn wsL_law wsX6_as := goodIn_r _ [278, 107, 29, 147, 151, 279, 152, 153, 154, 2, 155, 108, 110, 111, 112, 280, 281, 282, 57, 283, 182, 1148, 1149, 1150, 1151, 1152, 1153, 1154, 1155, 1156, 1157, 1158, 1159, 1160, 1161, 1162, 1199, 1200, 1201, 1202, 1203, 1204, 1205, 1206, 1207, 1208, 1209, 1210, 1211, 1212, 1228, 1229, 1230, 1231] rfl gw_wsX6_as
set_option maxRecDepth 20000 in
theorem gw_wsX6_turns : wsX6_turns.all goodWord = true := by decide +kernel
set_option maxRecDepth 20000 in
theorem ggL_law_X6_turns : GoodIn wsL_law wsX6_turns := goodIn_r _ [295, 107, 29, 147, 148, 152, 153, 154, 2, 155, 108, 110, 111, 112, 1148, 1149, 1150, 1151, 1152, 1153, 1154, 1155, 1156, 1157, 1158, 1159, 1160, 1161, 1162, 1199, 1200, 1201, 1202, 1203, 1204, 1205, 1206, 1207, 1208, 1209, 1210, 1211, 1212, 1228, 1229, 1230, 1231] rfl gw_wsX6_turns
set_option maxRecDepth 20000 in
theorem gw_wsX6_set : wsX6_set.all goodWord = true := by decide +kernel
set_option maxRecDepth 20000 in
theorem ggL_law_X6_set : GoodIn wsL_law wsX6_set := goodIn_r _ [307, 107, 29, 147, 152, 153, 154, 2, 155, 108, 110, 111, 112, 308, 309, 310, 149, 311, 312, 313, 150, 314, 315, 316, 151, 1148, 1149, 1150, 1151, 1152, 1153, 1154, 1155, 1156, 1157, 1158, 1159, 1160, 1161, 1162, 1199, 1200, 1201, 1202, 1203, 1204, 1205, 1206, 1207, 1208, 1209, 1210, 1211, 1212, 1228, 1229, 1230, 1231] rfl gw_wsX6_set
set_option maxRecDepth 20000 in
theorem gw_wsX6_cloth : wsX6_cloth.all goodWord = true := by decide +kernel
set_option maxRecDepth 20000 in
theorem ggL_law_X6_cloth : GoodIn wsL_law wsX6_cloth := goodIn_r _ [326, 29, 327, 328, 329, 330, 107, 331, 188, 189, 24, 190, 177, 191, 192, 162, 193, 332, 333, 334, 335, 49, 164, 165, 166, 167, 168, 169, 170, 171, 172, 51, 173, 174, 175, 176, 336, 337, 338, 339, 117, 48, 120, 1148, 1149, 1150, 1151, 1152, 1153, 1154, 1155, 1156, 1157, 1158, 1159, 1160, 1161, 1162, 1199, 1200, 1201, 1202, 1203, 1204, 1205, 1206, 1207, 1208, 1209, 1210, 1211, 1212, 1228, 1229, 1230, 1231] rfl gw_wsX6_cloth
set_option maxRecDepth 20000 in
theorem gw_wsX6_rule : wsX6_rule.all goodWord = true := by decide +kernel
set_option maxRecDepth 20000 in
theorem ggL_law_X6_rule : GoodIn wsL_law wsX6_rule := goodIn_r _ [359, 107, 360, 361, 362, 2, 363, 29, 327, 364, 365, 366, 24, 367, 51, 110, 111, 112, 368, 369, 370, 371, 328, 372, 373, 374, 375, 168, 376, 202, 203, 204, 161, 162, 163, 205, 206, 207, 377, 378, 379, 380, 329, 381, 382, 383, 384, 330, 1148, 1149, 1150, 1151, 1152, 1153, 1154, 1155, 1156, 1157, 1158, 1159, 1160, 1161, 1162, 1199, 1200, 1201, 1202, 1203, 1204, 1205, 1206, 1207, 1208, 1209, 1210, 1211, 1212] rfl gw_wsX6_rule
set_option maxRecDepth 20000 in
theorem gw_wsX6_deal : wsX6_deal.all goodWord = true := by decide +kernel
set_option maxRecDepth 20000 in
theorem ggL_law_X6_deal : GoodIn wsL_law wsX6_deal := goodIn_r _ [400, 107, 29, 108, 204, 161, 162, 163, 110, 111, 2, 112, 401, 402, 403, 24, 404, 54, 405, 113, 114, 115, 116, 117, 118, 48, 119, 120, 121, 122, 1148, 1149, 1150, 1151, 1152, 1153, 1154, 1155, 1156, 1157, 1158, 1159, 1160, 1161, 1162, 1199, 1200, 1201, 1202, 1203, 1204, 1205, 1206, 1207, 1208, 1209, 1210, 1211, 1212, 1228, 1229, 1230, 1231] rfl gw_wsX6_deal
set_option maxRecDepth 20000 in
theorem gw_wsX6_seed : wsX6_seed.all goodWord = true := by decide +kernel
set_option maxRecDepth 20000 in
theorem ggL_law_X6_seed : GoodIn wsL_law wsX6_seed := goodIn_r _ [419, 29, 420, 1148, 1149, 1150, 1151, 1152, 1153, 1154, 1155, 1156, 1157, 1158, 1159, 1160, 1161, 1162, 1199, 1200, 1201, 1202, 1203, 1204, 1205, 1206, 1207, 1208, 1209, 1210, 1211, 1212] rfl gw_wsX6_seed
set_option maxRecDepth 20000 in
theorem gw_wsX6_hours : wsX6_hours.all goodWord = true := by decide +kernel
set_option maxRecDepth 20000 in
theorem ggL_law_X6_hours : GoodIn wsL_law wsX6_hours := goodIn_r _ [428, 107, 29, 429, 430, 204, 161, 162, 163, 110, 111, 2, 112, 431, 432, 433, 24, 434, 53, 435, 436, 437, 438, 117, 48, 120, 168, 164, 165, 166, 167, 169, 170, 171, 172, 51, 173, 174, 175, 176, 177, 439, 157, 158, 159, 121, 160, 178, 179, 180, 57, 181, 182, 183, 184, 185, 186, 50, 55, 122, 187, 188, 189, 190, 191, 192, 193, 194, 195, 196, 22, 197, 198, 41, 42, 199, 200, 201, 202, 203, 205, 206, 207, 208, 209, 210, 211, 440, 441, 442, 443, 444, 445, 446, 447, 448, 376, 365, 366, 367, 449, 450, 451, 452, 453, 454, 455, 456, 457, 458, 459, 460, 461, 462, 52, 463, 464, 402, 403, 404, 54, 405, 1148, 1149, 1150, 1151, 1152, 1153, 1154, 1155, 1156, 1157, 1158, 1159, 1160, 1161, 1162, 1199, 1200, 1201, 1202, 1203, 1204, 1205, 1206, 1207, 1208, 1209, 1210, 1211, 1212, 1228, 1229, 1230, 1231, 1194, 1195, 1196, 1197, 1198] rfl gw_wsX6_hours
set_option maxRecDepth 20000 in
theorem gw_wsX6_book : wsX6_book.all goodWord = true := by decide +kernel
set_option maxRecDepth 20000 in
theorem ggL_law_X6_book : GoodIn wsL_law wsX6_book := goodIn_r _ [493, 29, 429, 494, 495, 107, 496, 497, 498, 24, 499, 117, 48, 121, 1148, 1149, 1150, 1151, 1152, 1153, 1154, 1155, 1156, 1157, 1158, 1159, 1160, 1161, 1162, 1199, 1200, 1201, 1202, 1203, 1204, 1205, 1206, 1207, 1208, 1209, 1210, 1211, 1212, 1228, 1229, 1230, 1231] rfl gw_wsX6_book
set_option maxRecDepth 20000 in
theorem gw_wsX6_behind : wsX6_behind.all goodWord = true := by decide +kernel
set_option maxRecDepth 20000 in
theorem ggL_law_X6_behind : GoodIn wsL_law wsX6_behind := goodIn_r _ [507, 107, 30, 29, 429, 494, 327, 495, 110, 111, 2, 112, 508, 509, 510, 24, 511, 117, 48, 512, 50, 51, 168, 177, 52, 53, 458, 457, 463, 54, 513, 514, 515, 57, 516, 182, 517, 518, 217, 519, 520, 521, 522, 431, 432, 433, 434, 435, 436, 437, 438, 120, 164, 165, 166, 167, 169, 170, 171, 172, 173, 174, 175, 176, 439, 157, 158, 159, 121, 160, 161, 162, 163, 178, 179, 180, 181, 183, 184, 185, 186, 55, 122, 187, 188, 189, 190, 191, 192, 193, 194, 195, 196, 22, 197, 198, 41, 42, 199, 200, 201, 202, 203, 204, 205, 206, 207, 208, 209, 210, 211, 440, 441, 442, 443, 444, 445, 446, 447, 448, 376, 365, 366, 367, 449, 450, 451, 452, 453, 454, 455, 456, 459, 460, 461, 462, 464, 402, 403, 404, 405, 1148, 1149, 1150, 1151, 1152, 1153, 1154, 1155, 1156, 1157, 1158, 1159, 1160, 1161, 1162, 1199, 1200, 1201, 1202, 1203, 1204, 1205, 1206, 1207, 1208, 1209, 1210, 1211, 1212, 1228, 1229, 1230, 1231, 1194, 1195, 1196, 1197, 1198] rfl gw_wsX6_behind
set_option maxRecDepth 20000 in
theorem gw_wsX6_goods : wsX6_goods.all goodWord = true := by decide +kernel
set_option maxRecDepth 20000 in
theorem ggL_law_X6_goods : GoodIn wsL_law wsX6_goods := goodIn_r _ [542, 107, 30, 29, 147, 150, 152, 153, 154, 2, 155, 108, 110, 111, 112, 508, 509, 510, 24, 511, 117, 48, 512, 50, 51, 168, 177, 52, 53, 458, 457, 463, 54, 513, 514, 515, 57, 516, 182, 517, 518, 217, 519, 520, 521, 522, 431, 432, 433, 434, 435, 436, 437, 438, 120, 164, 165, 166, 167, 169, 170, 171, 172, 173, 174, 175, 176, 439, 157, 158, 159, 121, 160, 161, 162, 163, 178, 179, 180, 181, 183, 184, 185, 186, 55, 122, 187, 188, 189, 190, 191, 192, 193, 194, 195, 196, 22, 197, 198, 41, 42, 199, 200, 201, 202, 203, 204, 205, 206, 207, 208, 209, 210, 211, 440, 441, 442, 443, 444, 445, 446, 447, 448, 376, 365, 366, 367, 449, 450, 451, 452, 453, 454, 455, 456, 459, 460, 461, 462, 464, 402, 403, 404, 405, 1148, 1149, 1150, 1151, 1152, 1153, 1154, 1155, 1156, 1157, 1158, 1159, 1160, 1161, 1162, 1199, 1200, 1201, 1202, 1203, 1204, 1205, 1206, 1207, 1208, 1209, 1210, 1211, 1212, 1228, 1229, 1230, 1231, 1194, 1195, 1196, 1197, 1198] rfl gw_wsX6_goods
set_option maxRecDepth 20000 in
theorem gw_wsX6_best : wsX6_best.all goodWord = true := by decide +kernel
set_option maxRecDepth 20000 in
theorem ggL_law_X6_best : GoodIn wsL_law wsX6_best := goodIn_r _ [550, 107, 551, 552, 553, 13, 29, 110, 111, 2, 112, 508, 509, 510, 24, 511, 117, 48, 512, 50, 51, 168, 177, 52, 53, 458, 457, 463, 54, 513, 514, 515, 57, 516, 182, 517, 518, 217, 554, 555, 556, 557, 429, 453, 454, 455, 456, 121, 120, 122, 444, 445, 446, 447, 448, 206, 162, 207, 160, 161, 163, 376, 365, 366, 367, 439, 157, 158, 159, 164, 165, 166, 167, 169, 170, 171, 172, 173, 174, 175, 176, 178, 179, 180, 181, 183, 184, 185, 186, 55, 187, 188, 189, 190, 191, 192, 193, 194, 195, 196, 22, 197, 198, 41, 42, 199, 200, 201, 202, 203, 204, 205, 208, 209, 210, 211, 459, 460, 461, 462, 464, 402, 403, 404, 405, 1148, 1149, 1150, 1151, 1152, 1153, 1154, 1155, 1156, 1157, 1158, 1159, 1160, 1161, 1162, 1199, 1200, 1201, 1202, 1203, 1204, 1205, 1206, 1207, 1208, 1209, 1210, 1211, 1212, 1228, 1229, 1230, 1231, 1194, 1195, 1196, 1197, 1198] rfl gw_wsX6_best
set_option maxRecDepth 20000 in
theorem gw_wsX6_wider : wsX6_wider.all goodWord = true := by decide +kernel
set_option maxRecDepth 20000 in
theorem ggL_law_X6_wider : GoodIn wsL_law wsX6_wider := goodIn_r _ [565, 107, 30, 29, 429, 566, 110, 111, 2, 112, 508, 509, 510, 24, 511, 117, 48, 512, 50, 51, 168, 177, 52, 53, 458, 457, 463, 54, 513, 514, 515, 57, 516, 182, 517, 518, 217, 372, 373, 374, 375, 376, 365, 366, 367, 202, 203, 204, 161, 162, 163, 205, 206, 207, 519, 520, 521, 522, 431, 432, 433, 434, 435, 436, 437, 438, 120, 164, 165, 166, 167, 169, 170, 171, 172, 173, 174, 175, 176, 439, 157, 158, 159, 121, 160, 178, 179, 180, 181, 183, 184, 185, 186, 55, 122, 187, 188, 189, 190, 191, 192, 193, 194, 195, 196, 22, 197, 198, 41, 42, 199, 200, 201, 208, 209, 210, 211, 440, 441, 442, 443, 444, 445, 446, 447, 448, 449, 450, 451, 452, 453, 454, 455, 456, 459, 460, 461, 462, 464, 402, 403, 404, 405, 1148, 1149, 1150, 1151, 1152, 1153, 1154, 1155, 1156, 1157, 1158, 1159, 1160, 1161, 1162, 1199, 1200, 1201, 1202, 1203, 1204, 1205, 1206, 1207, 1208, 1209, 1210, 1211, 1212, 1228, 1229, 1230, 1231, 1194, 1195, 1196, 1197, 1198] rfl gw_wsX6_wider
set_option maxRecDepth 20000 in
theorem gw_wsX6_shaded : wsX6_shaded.all goodWord = true := by decide +kernel
set_option maxRecDepth 20000 in
theorem ggL_law_X6_shaded : GoodIn wsL_law wsX6_shaded := goodIn_r _ [576, 107, 30, 29, 147, 149, 152, 153, 154, 2, 155, 108, 110, 111, 112, 508, 509, 510, 24, 511, 117, 48, 512, 50, 51, 168, 177, 52, 53, 458, 457, 463, 54, 513, 514, 515, 57, 516, 182, 517, 518, 217, 431, 432, 433, 434, 435, 436, 437, 438, 120, 164, 165, 166, 167, 169, 170, 171, 172, 173, 174, 175, 176, 439, 157, 158, 159, 121, 160, 161, 162, 163, 178, 179, 180, 181, 183, 184, 185, 186, 55, 122, 187, 188, 189, 190, 191, 192, 193, 194, 195, 196, 22, 197, 198, 41, 42, 199, 200, 201, 202, 203, 204, 205, 206, 207, 208, 209, 210, 211, 440, 441, 442, 443, 444, 445, 446, 447, 448, 376, 365, 366, 367, 449, 450, 451, 452, 577, 578, 453, 454, 455, 456, 459, 460, 461, 462, 464, 402, 403, 404, 405, 1148, 1149, 1150, 1151, 1152, 1153, 1154, 1155, 1156, 1157, 1158, 1159, 1160, 1161, 1162, 1199, 1200, 1201, 1202, 1203, 1204, 1205, 1206, 1207, 1208, 1209, 1210, 1211, 1212, 1228, 1229, 1230, 1231, 1194, 1195, 1196, 1197, 1198] rfl gw_wsX6_shaded
set_option maxRecDepth 20000 in
theorem gw_wsX6_without : wsX6_without.all goodWord = true := by decide +kernel
set_option maxRecDepth 20000 in
theorem ggL_law_X6_without : GoodIn wsL_law wsX6_without := goodIn_r _ [586, 107, 29, 108, 566, 30, 147, 151, 494, 110, 111, 2, 112, 508, 509, 510, 24, 511, 117, 48, 512, 50, 51, 168, 177, 52, 53, 458, 457, 463, 54, 513, 514, 515, 57, 516, 182, 517, 518, 217, 519, 520, 521, 522, 431, 432, 433, 434, 435, 436, 437, 438, 120, 164, 165, 166, 167, 169, 170, 171, 172, 173, 174, 175, 176, 439, 157, 158, 159, 121, 160, 161, 162, 163, 178, 179, 180, 181, 183, 184, 185, 186, 55, 122, 187, 188, 189, 190, 191, 192, 193, 194, 195, 196, 22, 197, 198, 41, 42, 199, 200, 201, 202, 203, 204, 205, 206, 207, 208, 209, 210, 211, 440, 441, 442, 443, 444, 445, 446, 447, 448, 376, 365, 366, 367, 449, 450, 451, 452, 453, 454, 455, 456, 459, 460, 461, 462, 464, 402, 403, 404, 405, 1148, 1149, 1150, 1151, 1152, 1153, 1154, 1155, 1156, 1157, 1158, 1159, 1160, 1161, 1162, 1199, 1200, 1201, 1202, 1203, 1204, 1205, 1206, 1207, 1208, 1209, 1210, 1211, 1212, 1228, 1229, 1230, 1231, 1194, 1195, 1196, 1197, 1198] rfl gw_wsX6_without
set_option maxRecDepth 20000 in
theorem gw_wsX6_whose : wsX6_whose.all goodWord = true := by decide +kernel
set_option maxRecDepth 20000 in
theorem ggL_law_X6_whose : GoodIn wsL_law wsX6_whose := goodIn_r _ [594, 107, 15, 595, 551, 30, 29, 330, 596, 597, 2, 598, 110, 111, 112, 599, 600, 601, 26, 602, 64, 508, 509, 510, 24, 511, 117, 48, 512, 50, 51, 168, 177, 52, 53, 458, 457, 463, 54, 513, 514, 515, 57, 516, 182, 517, 518, 217, 519, 520, 521, 522, 431, 432, 433, 434, 435, 436, 437, 438, 120, 164, 165, 166, 167, 169, 170, 171, 172, 173, 174, 175, 176, 439, 157, 158, 159, 121, 160, 161, 162, 163, 178, 179, 180, 181, 183, 184, 185, 186, 55, 122, 187, 188, 189, 190, 191, 192, 193, 194, 195, 196, 22, 197, 198, 41, 42, 199, 200, 201, 202, 203, 204, 205, 206, 207, 208, 209, 210, 211, 440, 441, 442, 443, 444, 445, 446, 447, 448, 376, 365, 366, 367, 449, 450, 451, 452, 453, 454, 455, 456, 459, 460, 461, 462, 464, 402, 403, 404, 405, 603, 604, 605, 606, 607, 608, 609, 610, 611, 65, 612, 613, 614, 615, 616, 617, 1148, 1149, 1150, 1151, 1152, 1153, 1154, 1155, 1156, 1157, 1158, 1159, 1160, 1161, 1162, 1199, 1200, 1201, 1202, 1203, 1204, 1205, 1206, 1207, 1208, 1209, 1210, 1211, 1212, 1213, 1214, 1215, 1228, 1229, 1230, 1231, 1194, 1195, 1196, 1197, 1198] rfl gw_wsX6_whose
set_option maxRecDepth 20000 in
theorem gw_wsX6_fee : wsX6_fee.all goodWord = true := by decide +kernel
set_option maxRecDepth 20000 in
theorem ggL_law_X6_fee : GoodIn wsL_law wsX6_fee := goodIn_r _ [629, 29, 630, 494, 36, 495, 110, 111, 2, 112, 631, 195, 196, 22, 197, 198, 41, 42, 199, 200, 201, 1148, 1149, 1150, 1151, 1152, 1153, 1154, 1155, 1156, 1157, 1158, 1159, 1160, 1161, 1162, 1199, 1200, 1201, 1202, 1203, 1204, 1205, 1206, 1207, 1208, 1209, 1210, 1211, 1212, 1194, 1195, 1196, 1197, 1198] rfl gw_wsX6_fee
set_option maxRecDepth 20000 in
theorem gw_wsX6_fine : wsX6_fine.all goodWord = true := by decide +kernel
set_option maxRecDepth 20000 in
theorem ggL_law_X6_fine : GoodIn wsL_law wsX6_fine := goodIn_r _ [639, 107, 29, 147, 630, 150, 36, 149, 152, 153, 154, 2, 155, 108, 110, 111, 112, 212, 165, 166, 24, 167, 168, 169, 170, 171, 172, 51, 173, 174, 175, 176, 177, 631, 195, 196, 22, 197, 198, 41, 42, 199, 200, 201, 1148, 1149, 1150, 1151, 1152, 1153, 1154, 1155, 1156, 1157, 1158, 1159, 1160, 1161, 1162, 1199, 1200, 1201, 1202, 1203, 1204, 1205, 1206, 1207, 1208, 1209, 1210, 1211, 1212, 1228, 1229, 1230, 1231, 1194, 1195, 1196, 1197, 1198] rfl gw_wsX6_fine
set_option maxRecDepth 20000 in
theorem gw_wsX6_feed : wsX6_feed.all goodWord = true := by decide +kernel
set_option maxRecDepth 20000 in
theorem ggL_law_X6_feed : GoodIn wsL_law wsX6_feed := goodIn_r _ [647, 648, 109, 649, 650, 651, 2, 652, 37, 1148, 1149, 1150, 1151, 1152, 1153, 1154, 1155, 1156, 1157, 1158, 1159, 1160, 1161, 1162] rfl gw_wsX6_feed
set_option maxRecDepth 20000 in
theorem gw_wsX6_trim : wsX6_trim.all goodWord = true := by decide +kernel
set_option maxRecDepth 20000 in
theorem ggL_law_X6_trim : GoodIn wsL_law wsX6_trim := goodIn_r _ [661, 648, 107, 110, 111, 2, 112, 1148, 1149, 1150, 1151, 1152, 1153, 1154, 1155, 1156, 1157, 1158, 1159, 1160, 1161, 1162] rfl gw_wsX6_trim
set_option maxRecDepth 20000 in
theorem gw_wsX6_text : wsX6_text.all goodWord = true := by decide +kernel
set_option maxRecDepth 20000 in
theorem ggL_law_X6_text : GoodIn wsL_law wsX6_text := goodIn_r _ [669, 35, 648, 566, 29, 670, 109, 671, 672, 673, 674, 34, 675, 676, 677, 678, 679, 680, 681, 682, 79, 202, 2, 203, 204, 161, 162, 163, 205, 206, 207, 683, 684, 685, 686, 80, 687, 688, 689, 690, 691, 692, 693, 694, 695, 696, 697, 698, 699, 700, 701, 702, 703, 704, 705, 706, 707, 708, 709, 710, 711, 712, 713, 714, 715, 716, 717, 718, 719, 720, 721, 722, 723, 724, 725, 726, 727, 728, 729, 730, 731, 732, 733, 734, 735, 736, 737, 738, 739, 740, 741, 742, 743, 744, 745, 746, 747, 748, 749, 750, 22, 751, 752, 753, 198, 754, 755, 756, 757, 758, 759, 760, 761, 762, 763, 764, 111, 112, 765, 766, 767, 768, 769, 770, 771, 41, 772, 773, 774, 775, 776, 777, 778, 779, 780, 781, 782, 783, 784, 785, 786, 787, 788, 789, 790, 791, 792, 793, 794, 795, 796, 797, 798, 799, 800, 801, 802, 803, 804, 805, 806, 807, 808, 809, 810, 811, 812, 813, 814, 815, 816, 817, 818, 819, 820, 821, 822, 823, 824, 825, 826, 827, 828, 829, 830, 831, 832, 833, 834, 835, 836, 837, 838, 839, 840, 841, 842, 843, 844, 845, 846, 847, 848, 849, 850, 851, 852, 853, 854, 855, 856, 24, 857, 512, 858, 118, 55, 50, 859, 860, 861, 862, 863, 864, 865, 866, 1148, 1149, 1150, 1151, 1152, 1153, 1154, 1155, 1156, 1157, 1158, 1159, 1160, 1161, 1162, 1199, 1200, 1201, 1202, 1203, 1204, 1205, 1206, 1207, 1208, 1209, 1210, 1211, 1212, 1220, 1221, 1222, 1223, 1224, 1225, 1226, 1227, 1194, 1195, 1196, 1197, 1198] rfl gw_wsX6_text
set_option maxRecDepth 20000 in
theorem gw_wsX6_textTold : wsX6_textTold.all goodWord = true := by decide +kernel
set_option maxRecDepth 20000 in
theorem ggL_law_X6_textTold : GoodIn wsL_law wsX6_textTold := goodIn_r _ [947, 29, 670, 107, 36, 948, 949, 110, 111, 2, 112, 1148, 1149, 1150, 1151, 1152, 1153, 1154, 1155, 1156, 1157, 1158, 1159, 1160, 1161, 1162, 1199, 1200, 1201, 1202, 1203, 1204, 1205, 1206, 1207, 1208, 1209, 1210, 1211, 1212, 1194, 1195, 1196, 1197, 1198] rfl gw_wsX6_textTold
set_option maxRecDepth 20000 in
theorem gw_wsX6_why : wsX6_why.all goodWord = true := by decide +kernel
set_option maxRecDepth 20000 in
theorem ggL_law_X6_why : GoodIn wsL_law wsX6_why := goodIn_r _ [961, 29, 630, 107, 110, 111, 2, 112, 1148, 1149, 1150, 1151, 1152, 1153, 1154, 1155, 1156, 1157, 1158, 1159, 1160, 1161, 1162, 1199, 1200, 1201, 1202, 1203, 1204, 1205, 1206, 1207, 1208, 1209, 1210, 1211, 1212] rfl gw_wsX6_why
set_option maxRecDepth 20000 in
theorem gw_wsX6_sheet : wsX6_sheet.all goodWord = true := by decide +kernel
set_option maxRecDepth 20000 in
theorem ggL_law_X6_sheet : GoodIn wsL_law wsX6_sheet := goodIn_r _ [970, 107, 15, 971, 596, 597, 2, 598, 110, 111, 112, 972, 973, 974, 26, 975, 64, 617, 65, 202, 203, 204, 161, 162, 163, 205, 206, 207, 1148, 1149, 1150, 1151, 1152, 1153, 1154, 1155, 1156, 1157, 1158, 1159, 1160, 1161, 1162, 1213, 1214, 1215] rfl gw_wsX6_sheet
set_option maxRecDepth 20000 in
theorem gw_wsX6_mark : wsX6_mark.all goodWord = true := by decide +kernel
set_option maxRecDepth 20000 in
theorem ggL_law_X6_mark : GoodIn wsL_law wsX6_mark := goodIn_r _ [985, 107, 15, 595, 986, 987, 566, 279, 988, 989, 990, 596, 597, 2, 598, 110, 111, 112, 599, 600, 601, 26, 602, 64, 991, 614, 615, 616, 617, 1148, 1149, 1150, 1151, 1152, 1153, 1154, 1155, 1156, 1157, 1158, 1159, 1160, 1161, 1162, 1213, 1214, 1215] rfl gw_wsX6_mark
set_option maxRecDepth 20000 in
theorem gw_wsX6_pour : wsX6_pour.all goodWord = true := by decide +kernel
set_option maxRecDepth 20000 in
theorem ggL_law_X6_pour : GoodIn wsL_law wsX6_pour := goodIn_r _ [1002, 107, 15, 595, 29, 108, 988, 147, 150, 596, 597, 2, 598, 110, 111, 112, 599, 600, 601, 26, 602, 64, 1003, 609, 610, 611, 65, 612, 613, 614, 615, 616, 617, 1004, 202, 203, 204, 161, 162, 163, 205, 206, 207, 1148, 1149, 1150, 1151, 1152, 1153, 1154, 1155, 1156, 1157, 1158, 1159, 1160, 1161, 1162, 1199, 1200, 1201, 1202, 1203, 1204, 1205, 1206, 1207, 1208, 1209, 1210, 1211, 1212, 1213, 1214, 1215, 1228, 1229, 1230, 1231] rfl gw_wsX6_pour
set_option maxRecDepth 20000 in
theorem gw_wsX6_reads : wsX6_reads.all goodWord = true := by decide +kernel
set_option maxRecDepth 20000 in
theorem ggL_law_X6_reads : GoodIn wsL_law wsX6_reads := goodIn_r _ [1012, 107, 15, 595, 1013, 988, 29, 147, 566, 596, 597, 2, 598, 110, 111, 112, 599, 600, 601, 26, 602, 64, 1003, 609, 610, 611, 65, 612, 613, 614, 615, 616, 617, 152, 153, 154, 155, 108, 156, 157, 158, 24, 159, 121, 120, 160, 161, 162, 163, 164, 165, 166, 167, 168, 169, 170, 171, 172, 51, 173, 174, 175, 176, 177, 178, 179, 180, 57, 181, 182, 183, 184, 185, 186, 50, 55, 122, 187, 188, 189, 190, 191, 192, 193, 194, 195, 196, 22, 197, 198, 41, 42, 199, 200, 201, 202, 203, 204, 205, 206, 207, 208, 209, 210, 211, 1148, 1149, 1150, 1151, 1152, 1153, 1154, 1155, 1156, 1157, 1158, 1159, 1160, 1161, 1162, 1213, 1214, 1215, 1199, 1200, 1201, 1202, 1203, 1204, 1205, 1206, 1207, 1208, 1209, 1210, 1211, 1212, 1228, 1229, 1230, 1231, 1194, 1195, 1196, 1197, 1198] rfl gw_wsX6_reads
set_option maxRecDepth 20000 in
theorem gw_wsX6_copy : wsX6_copy.all goodWord = true := by decide +kernel
set_option maxRecDepth 20000 in
theorem ggL_law_X6_copy : GoodIn wsL_law wsX6_copy := goodIn_r _ [1021, 107, 15, 595, 987, 279, 986, 988, 1022, 864, 865, 866, 596, 597, 2, 598, 110, 111, 112, 599, 600, 601, 26, 602, 64, 1023, 1024, 1025, 1026, 617, 1148, 1149, 1150, 1151, 1152, 1153, 1154, 1155, 1156, 1157, 1158, 1159, 1160, 1161, 1162, 1213, 1214, 1215] rfl gw_wsX6_copy
set_option maxRecDepth 20000 in
theorem gw_wsX6_lay : wsX6_lay.all goodWord = true := by decide +kernel
set_option maxRecDepth 20000 in
theorem ggL_law_X6_lay : GoodIn wsL_law wsX6_lay := goodIn_r _ [1034, 107, 17, 1035, 1036, 29, 147, 15, 595, 1037, 1038, 1039, 1040, 2, 1041, 110, 111, 112, 152, 153, 154, 155, 108, 1042, 514, 515, 57, 516, 182, 517, 518, 217, 596, 597, 598, 599, 600, 601, 26, 602, 64, 1043, 1044, 1045, 1046, 617, 65, 1047, 864, 865, 866, 1148, 1149, 1150, 1151, 1152, 1153, 1154, 1155, 1156, 1157, 1158, 1159, 1160, 1161, 1162, 1216, 1217, 1218, 1219, 1199, 1200, 1201, 1202, 1203, 1204, 1205, 1206, 1207, 1208, 1209, 1210, 1211, 1212, 1228, 1229, 1230, 1231, 1213, 1214, 1215] rfl gw_wsX6_lay
set_option maxRecDepth 20000 in
theorem gw_wsX6_ask : wsX6_ask.all goodWord = true := by decide +kernel
set_option maxRecDepth 20000 in
theorem ggL_law_X6_ask : GoodIn wsL_law wsX6_ask := goodIn_r _ [1059, 107, 17, 1036, 279, 1039, 1040, 2, 1041, 110, 111, 112, 1060, 1061, 1062, 28, 1063, 69, 1064, 1065, 280, 281, 282, 57, 283, 182, 213, 214, 215, 216, 217, 1148, 1149, 1150, 1151, 1152, 1153, 1154, 1155, 1156, 1157, 1158, 1159, 1160, 1161, 1162, 1216, 1217, 1218, 1219, 1228, 1229, 1230, 1231] rfl gw_wsX6_ask
set_option maxRecDepth 20000 in
theorem gw_wsX6_item : wsX6_item.all goodWord = true := by decide +kernel
set_option maxRecDepth 20000 in
theorem ggL_law_X6_item : GoodIn wsL_law wsX6_item := goodIn_r _ [1073, 107, 17, 1037, 986, 988, 279, 1039, 1040, 2, 1041, 110, 111, 112, 1060, 1061, 1062, 28, 1063, 69, 1064, 1065, 991, 614, 615, 26, 616, 617, 1003, 609, 610, 611, 65, 612, 613, 1148, 1149, 1150, 1151, 1152, 1153, 1154, 1155, 1156, 1157, 1158, 1159, 1160, 1161, 1162, 1216, 1217, 1218, 1219, 1213, 1214, 1215] rfl gw_wsX6_item
set_option maxRecDepth 20000 in
theorem gw_wsX6_rest : wsX6_rest.all goodWord = true := by decide +kernel
set_option maxRecDepth 20000 in
theorem ggL_law_X6_rest : GoodIn wsL_law wsX6_rest := goodIn_r _ [1081, 107, 17, 1082, 1038, 1039, 1040, 2, 1041, 110, 111, 112, 1060, 1061, 1062, 28, 1063, 69, 1064, 1065, 1148, 1149, 1150, 1151, 1152, 1153, 1154, 1155, 1156, 1157, 1158, 1159, 1160, 1161, 1162, 1216, 1217, 1218, 1219] rfl gw_wsX6_rest
set_option maxRecDepth 20000 in
theorem gw_wsX6_tell : wsX6_tell.all goodWord = true := by decide +kernel
set_option maxRecDepth 20000 in
theorem ggL_law_X6_tell : GoodIn wsL_law wsX6_tell := goodIn_r _ [1091, 1092, 109, 19, 1148, 1149, 1150, 1151, 1152, 1153, 1154, 1155, 1156, 1157, 1158, 1159, 1160, 1161, 1162] rfl gw_wsX6_tell
set_option maxRecDepth 20000 in
theorem gw_wsX6_check : wsX6_check.all goodWord = true := by decide +kernel
set_option maxRecDepth 20000 in
theorem ggL_law_X6_check : GoodIn wsL_law wsX6_check := goodIn_r _ [1101, 1092, 107, 1102, 1082, 30, 31, 430, 204, 161, 162, 163, 19, 429, 327, 110, 111, 2, 112, 508, 509, 510, 24, 511, 117, 48, 512, 50, 51, 168, 177, 52, 53, 458, 457, 463, 54, 513, 514, 515, 57, 516, 182, 517, 518, 217, 431, 432, 433, 434, 435, 436, 437, 438, 120, 164, 165, 166, 167, 169, 170, 171, 172, 173, 174, 175, 176, 439, 157, 158, 159, 121, 160, 178, 179, 180, 181, 183, 184, 185, 186, 55, 122, 187, 188, 189, 190, 191, 192, 193, 194, 195, 196, 22, 197, 198, 41, 42, 199, 200, 201, 202, 203, 205, 206, 207, 208, 209, 210, 211, 440, 441, 442, 443, 444, 445, 446, 447, 448, 376, 365, 366, 367, 449, 450, 451, 452, 453, 454, 455, 456, 459, 460, 461, 462, 464, 402, 403, 404, 405, 1148, 1149, 1150, 1151, 1152, 1153, 1154, 1155, 1156, 1157, 1158, 1159, 1160, 1161, 1162, 1199, 1200, 1201, 1202, 1203, 1204, 1205, 1206, 1207, 1208, 1209, 1210, 1211, 1212, 1228, 1229, 1230, 1231, 1194, 1195, 1196, 1197, 1198] rfl gw_wsX6_check
set_option maxRecDepth 20000 in
theorem gw_wsX6_keep : wsX6_keep.all goodWord = true := by decide +kernel
set_option maxRecDepth 20000 in
theorem ggL_law_X6_keep : GoodIn wsL_law wsX6_keep := goodIn_r _ [1116, 31, 29, 1102, 108, 508, 509, 510, 24, 511, 117, 48, 512, 50, 51, 168, 177, 52, 53, 458, 457, 463, 54, 513, 514, 515, 57, 516, 182, 517, 518, 217, 1148, 1149, 1150, 1151, 1152, 1153, 1154, 1155, 1156, 1157, 1158, 1159, 1160, 1161, 1162, 1199, 1200, 1201, 1202, 1203, 1204, 1205, 1206, 1207, 1208, 1209, 1210, 1211, 1212, 1228, 1229, 1230, 1231] rfl gw_wsX6_keep
set_option maxRecDepth 20000 in
theorem gw_wsX6_back : wsX6_back.all goodWord = true := by decide +kernel
set_option maxRecDepth 20000 in
theorem ggL_law_X6_back : GoodIn wsL_law wsX6_back := goodIn_r _ [1124, 1102, 1082, 29, 31, 108, 508, 509, 510, 24, 511, 117, 48, 512, 50, 51, 168, 177, 52, 53, 458, 457, 463, 54, 513, 514, 515, 57, 516, 182, 517, 518, 217, 1148, 1149, 1150, 1151, 1152, 1153, 1154, 1155, 1156, 1157, 1158, 1159, 1160, 1161, 1162, 1199, 1200, 1201, 1202, 1203, 1204, 1205, 1206, 1207, 1208, 1209, 1210, 1211, 1212, 1228, 1229, 1230, 1231] rfl gw_wsX6_back
set_option maxRecDepth 20000 in
theorem gw_wsX6_count : wsX6_count.all goodWord = true := by decide +kernel
set_option maxRecDepth 20000 in
theorem ggL_law_X6_count : GoodIn wsL_law wsX6_count := goodIn_r _ [1132, 29, 108, 430, 670, 1092, 648, 420, 107, 336, 337, 338, 24, 339, 117, 48, 120, 164, 165, 166, 167, 168, 169, 170, 171, 172, 51, 173, 174, 175, 176, 177, 1133, 1134, 1135, 1136, 1137, 1138, 1139, 1148, 1149, 1150, 1151, 1152, 1153, 1154, 1155, 1156, 1157, 1158, 1159, 1160, 1161, 1162, 1199, 1200, 1201, 1202, 1203, 1204, 1205, 1206, 1207, 1208, 1209, 1210, 1211, 1212, 1228, 1229, 1230, 1231] rfl gw_wsX6_count
set_option maxRecDepth 20000 in
theorem gL_law_X6_init : GoodIn wsL_law (wsX6_init) := ggL_law_X6_init
set_option maxRecDepth 20000 in
theorem gL_law_X6_stall : GoodIn wsL_law (wsV RL 13 RX6 yX6_stall wsX6_stall) := goodIn_app (goodIn_r _ [103, 104, 105, 2] (by decide +kernel) (by decide +kernel)) ggL_law_X6_stall
set_option maxRecDepth 20000 in
theorem gL_law_X6_told : GoodIn wsL_law (wsV RL 18 RX6 yX6_told wsX6_told) := goodIn_app (goodIn_r _ [143, 144, 145, 2] (by decide +kernel) (by decide +kernel)) ggL_law_X6_told
set_option maxRecDepth 20000 in
theorem gL_law_X6_as : GoodIn wsL_law (wsV RL 23 RX6 yX6_as wsX6_as) := goodIn_app (goodIn_r _ [275, 276, 277, 2] (by decide +kernel) (by decide +kernel)) ggL_law_X6_as
set_option maxRecDepth 20000 in
theorem gL_law_X6_turns : GoodIn wsL_law (wsV RL 27 RX6 yX6_turns wsX6_turns) := goodIn_app (goodIn_r _ [292, 293, 294, 2] (by decide +kernel) (by decide +kernel)) ggL_law_X6_turns
set_option maxRecDepth 20000 in
theorem gL_law_X6_set : GoodIn wsL_law (wsV RL 31 RX6 yX6_set wsX6_set) := goodIn_app (goodIn_r _ [304, 305, 306, 2] (by decide +kernel) (by decide +kernel)) ggL_law_X6_set
set_option maxRecDepth 20000 in
theorem gL_law_X6_cloth : GoodIn wsL_law (wsV RL 35 RX6 yX6_cloth wsX6_cloth) := goodIn_app (goodIn_r _ [323, 324, 325, 2] (by decide +kernel) (by decide +kernel)) ggL_law_X6_cloth
set_option maxRecDepth 20000 in
theorem gL_law_X6_rule : GoodIn wsL_law (wsV RL 40 RX6 yX6_rule wsX6_rule) := goodIn_app (goodIn_r _ [356, 357, 358, 2] (by decide +kernel) (by decide +kernel)) ggL_law_X6_rule
set_option maxRecDepth 20000 in
theorem gL_law_X6_deal : GoodIn wsL_law (wsV RL 44 RX6 yX6_deal wsX6_deal) := goodIn_app (goodIn_r _ [397, 398, 399, 2] (by decide +kernel) (by decide +kernel)) ggL_law_X6_deal
set_option maxRecDepth 20000 in
theorem gL_law_X6_seed : GoodIn wsL_law (wsV RL 48 RX6 yX6_seed wsX6_seed) := goodIn_app (goodIn_r _ [416, 417, 418, 2] (by decide +kernel) (by decide +kernel)) ggL_law_X6_seed
set_option maxRecDepth 20000 in
theorem gL_law_X6_hours : GoodIn wsL_law (wsV RL 52 RX6 yX6_hours wsX6_hours) := goodIn_app (goodIn_r _ [425, 426, 427, 2] (by decide +kernel) (by decide +kernel)) ggL_law_X6_hours
set_option maxRecDepth 20000 in
theorem gL_law_X6_book : GoodIn wsL_law (wsV RL 56 RX6 yX6_book wsX6_book) := goodIn_app (goodIn_r _ [490, 491, 492, 2] (by decide +kernel) (by decide +kernel)) ggL_law_X6_book
set_option maxRecDepth 20000 in
theorem gL_law_X6_behind : GoodIn wsL_law (wsV RL 60 RX6 yX6_behind wsX6_behind) := goodIn_app (goodIn_r _ [504, 505, 506, 2] (by decide +kernel) (by decide +kernel)) ggL_law_X6_behind
set_option maxRecDepth 20000 in
theorem gL_law_X6_goods : GoodIn wsL_law (wsV RL 64 RX6 yX6_goods wsX6_goods) := goodIn_app (goodIn_r _ [539, 540, 541, 2] (by decide +kernel) (by decide +kernel)) ggL_law_X6_goods
set_option maxRecDepth 20000 in
theorem gL_law_X6_best : GoodIn wsL_law (wsV RL 68 RX6 yX6_best wsX6_best) := goodIn_app (goodIn_r _ [547, 548, 549, 2] (by decide +kernel) (by decide +kernel)) ggL_law_X6_best
set_option maxRecDepth 20000 in
theorem gL_law_X6_wider : GoodIn wsL_law (wsV RL 72 RX6 yX6_wider wsX6_wider) := goodIn_app (goodIn_r _ [562, 563, 564, 2] (by decide +kernel) (by decide +kernel)) ggL_law_X6_wider
set_option maxRecDepth 20000 in
theorem gL_law_X6_shaded : GoodIn wsL_law (wsV RL 76 RX6 yX6_shaded wsX6_shaded) := goodIn_app (goodIn_r _ [573, 574, 575, 2] (by decide +kernel) (by decide +kernel)) ggL_law_X6_shaded
set_option maxRecDepth 20000 in
theorem gL_law_X6_without : GoodIn wsL_law (wsV RL 80 RX6 yX6_without wsX6_without) := goodIn_app (goodIn_r _ [583, 584, 585, 2] (by decide +kernel) (by decide +kernel)) ggL_law_X6_without
set_option maxRecDepth 20000 in
theorem gL_law_X6_whose : GoodIn wsL_law (wsV RL 84 RX6 yX6_whose wsX6_whose) := goodIn_app (goodIn_r _ [591, 592, 593, 2] (by decide +kernel) (by decide +kernel)) ggL_law_X6_whose
set_option maxRecDepth 20000 in
theorem gL_law_X6_fee : GoodIn wsL_law (wsV RL 88 RX6 yX6_fee wsX6_fee) := goodIn_app (goodIn_r _ [626, 627, 628, 2] (by decide +kernel) (by decide +kernel)) ggL_law_X6_fee
set_option maxRecDepth 20000 in
theorem gL_law_X6_fine : GoodIn wsL_law (wsV RL 93 RX6 yX6_fine wsX6_fine) := goodIn_app (goodIn_r _ [636, 637, 638, 2] (by decide +kernel) (by decide +kernel)) ggL_law_X6_fine
set_option maxRecDepth 20000 in
theorem gL_law_X6_feed : GoodIn wsL_law (wsV RL 97 RX6 yX6_feed wsX6_feed) := goodIn_app (goodIn_r _ [644, 645, 646, 2] (by decide +kernel) (by decide +kernel)) ggL_law_X6_feed
set_option maxRecDepth 20000 in
theorem gL_law_X6_trim : GoodIn wsL_law (wsV RL 101 RX6 yX6_trim wsX6_trim) := goodIn_app (goodIn_r _ [658, 659, 660, 2] (by decide +kernel) (by decide +kernel)) ggL_law_X6_trim
set_option maxRecDepth 20000 in
theorem gL_law_X6_text : GoodIn wsL_law (wsV RL 105 RX6 yX6_text wsX6_text) := goodIn_app (goodIn_r _ [666, 667, 668, 2] (by decide +kernel) (by decide +kernel)) ggL_law_X6_text
set_option maxRecDepth 20000 in
theorem gL_law_X6_textTold : GoodIn wsL_law (wsV RL 109 RX6 yX6_textTold wsX6_textTold) := goodIn_app (goodIn_r _ [944, 945, 946, 2] (by decide +kernel) (by decide +kernel)) ggL_law_X6_textTold
set_option maxRecDepth 20000 in
theorem gL_law_X6_why : GoodIn wsL_law (wsV RL 113 RX6 yX6_why wsX6_why) := goodIn_app (goodIn_r _ [958, 959, 960, 2] (by decide +kernel) (by decide +kernel)) ggL_law_X6_why
set_option maxRecDepth 20000 in
theorem gL_law_X6_sheet : GoodIn wsL_law (wsV RL 117 RX6 yX6_sheet wsX6_sheet) := goodIn_app (goodIn_r _ [967, 968, 969, 2] (by decide +kernel) (by decide +kernel)) ggL_law_X6_sheet
set_option maxRecDepth 20000 in
theorem gL_law_X6_mark : GoodIn wsL_law (wsV RL 121 RX6 yX6_mark wsX6_mark) := goodIn_app (goodIn_r _ [982, 983, 984, 2] (by decide +kernel) (by decide +kernel)) ggL_law_X6_mark
set_option maxRecDepth 20000 in
theorem gL_law_X6_pour : GoodIn wsL_law (wsV RL 125 RX6 yX6_pour wsX6_pour) := goodIn_app (goodIn_r _ [999, 1000, 1001, 2] (by decide +kernel) (by decide +kernel)) ggL_law_X6_pour
set_option maxRecDepth 20000 in
theorem gL_law_X6_reads : GoodIn wsL_law (wsV RL 129 RX6 yX6_reads wsX6_reads) := goodIn_app (goodIn_r _ [1009, 1010, 1011, 2] (by decide +kernel) (by decide +kernel)) ggL_law_X6_reads
set_option maxRecDepth 20000 in
theorem gL_law_X6_copy : GoodIn wsL_law (wsV RL 133 RX6 yX6_copy wsX6_copy) := goodIn_app (goodIn_r _ [1018, 1019, 1020, 2] (by decide +kernel) (by decide +kernel)) ggL_law_X6_copy
set_option maxRecDepth 20000 in
theorem gL_law_X6_lay : GoodIn wsL_law (wsV RL 138 RX6 yX6_lay wsX6_lay) := goodIn_app (goodIn_r _ [1031, 1032, 1033, 2] (by decide +kernel) (by decide +kernel)) ggL_law_X6_lay
set_option maxRecDepth 20000 in
theorem gL_law_X6_ask : GoodIn wsL_law (wsV RL 142 RX6 yX6_ask wsX6_ask) := goodIn_app (goodIn_r _ [1056, 1057, 1058, 2] (by decide +kernel) (by decide +kernel)) ggL_law_X6_ask
set_option maxRecDepth 20000 in
theorem gL_law_X6_item : GoodIn wsL_law (wsV RL 146 RX6 yX6_item wsX6_item) := goodIn_app (goodIn_r _ [1070, 1071, 1072, 2] (by decide +kernel) (by decide +kernel)) ggL_law_X6_item
set_option maxRecDepth 20000 in
theorem gL_law_X6_rest : GoodIn wsL_law (wsV RL 150 RX6 yX6_rest wsX6_rest) := goodIn_app (goodIn_r _ [1078, 1079, 1080, 2] (by decide +kernel) (by decide +kernel)) ggL_law_X6_rest
set_option maxRecDepth 20000 in
theorem gL_law_X6_tell : GoodIn wsL_law (wsV RL 154 RX6 yX6_tell wsX6_tell) := goodIn_app (goodIn_r _ [1088, 1089, 1090, 2] (by decide +kernel) (by decide +kernel)) ggL_law_X6_tell
set_option maxRecDepth 20000 in
theorem gL_law_X6_check : GoodIn wsL_law (wsV RL 158 RX6 yX6_check wsX6_check) := goodIn_app (goodIn_r _ [1098, 1099, 1100, 2] (by decide +kernel) (by decide +kernel)) ggL_law_X6_check
set_option maxRecDepth 20000 in
theorem gL_law_X6_keep : GoodIn wsL_law (wsV RL 162 RX6 yX6_keep wsX6_keep) := goodIn_app (goodIn_r _ [1113, 1114, 1115, 2] (by decide +kernel) (by decide +kernel)) ggL_law_X6_keep
set_option maxRecDepth 20000 in
theorem gL_law_X6_back : GoodIn wsL_law (wsV RL 166 RX6 yX6_back wsX6_back) := goodIn_app (goodIn_r _ [1121, 1122, 1123, 2] (by decide +kernel) (by decide +kernel)) ggL_law_X6_back
set_option maxRecDepth 20000 in
theorem gL_law_X6_count : GoodIn wsL_law (wsV RL 170 RX6 yX6_count wsX6_count) := goodIn_app (goodIn_r _ [1129, 1130, 1131, 2] (by decide +kernel) (by decide +kernel)) ggL_law_X6_count
