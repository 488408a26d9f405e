set_option maxRecDepth 20000 in
theorem gw_wsX7_init : wsX7_init.all goodWord = true := by decide +kernel
set_option maxRecDepth 20000 in
theorem ggL_law_X7_init : GoodIn wsL_law wsX7_init := goodIn_r _ [83, 84, 10, 11, 18, 85, 86, 87, 88, 89, 90, 91, 92, 93, 94, 95, 96, 97, 98, 99, 100, 101, 102, 1163, 1164, 1165, 1166, 1167, 1168, 1169, 1170, 1171, 1172, 1173, 1174, 1175, 1176, 1177, 1178, 1179, 1180, 1181, 1182, 1183, 1184, 1185, 1186, 1187, 1188, 1189, 1190, 1191, 1192, 1193] rfl gw_wsX7_init
set_option maxRecDepth 20000 in
theorem gw_wsX7_stall : wsX7_stall.all goodWord = true := by decide +kernel
set_option maxRecDepth 20000 in
theorem ggL_law_X7_stall : GoodIn wsL_law wsX7_stall := goodIn_r _ [126, 127, 128, 129, 130, 85, 131, 132, 133, 5, 134, 135, 136, 137, 138, 139, 140, 141, 142, 1163, 1164, 1165, 1166, 1167, 1168, 1169, 1170, 1171, 1172, 1173, 1174, 1175, 1176, 1177, 1178, 1179, 1180, 1181, 1182, 1183, 1184, 1185, 1186, 1187, 1188, 1189, 1190, 1191, 1192, 1193] rfl gw_wsX7_stall
set_option maxRecDepth 20000 in
theorem gw_wsX7_told : wsX7_told.all goodWord = true := by decide +kernel
set_option maxRecDepth 20000 in
theorem ggL_law_X7_told : GoodIn wsL_law wsX7_told := goodIn_r _ [221, 130, 222, 223, 224, 5, 225, 85, 132, 133, 134, 226, 227, 228, 229, 230, 231, 232, 233, 234, 235, 236, 237, 238, 239, 240, 241, 242, 243, 244, 245, 98, 246, 247, 248, 249, 250, 251, 252, 253, 254, 255, 256, 257, 258, 259, 260, 261, 262, 263, 264, 99, 265, 266, 267, 268, 269, 270, 271, 272, 273, 274, 1163, 1164, 1165, 1166, 1167, 1168, 1169, 1170, 1171, 1172, 1173, 1174, 1175, 1176, 1177, 1178, 1179, 1180, 1181, 1182, 1183, 1184, 1185, 1186, 1187, 1188, 1189, 1190, 1191, 1192, 1193] rfl gw_wsX7_told
set_option maxRecDepth 20000 in
theorem gw_wsX7_as : wsX7_as.all goodWord = true := by decide +kernel
set_option maxRecDepth 20000 in
theorem ggL_law_X7_as : GoodIn wsL_law wsX7_as := goodIn_r _ [287, 127, 130, 288, 222, 223, 224, 5, 225, 85, 132, 133, 134, 226, 227, 228, 229, 289, 290, 291, 1163, 1164, 1165, 1166, 1167, 1168, 1169, 1170, 1171, 1172, 1173, 1174, 1175, 1176, 1177, 1178, 1179, 1180, 1181, 1182, 1183, 1184, 1185, 1186, 1187, 1188, 1189, 1190, 1191, 1192, 1193] rfl gw_wsX7_as
set_option maxRecDepth 20000 in
theorem gw_wsX7_turns : wsX7_turns.all goodWord = true := by decide +kernel
set_option maxRecDepth 20000 in
theorem ggL_law_X7_turns : GoodIn wsL_law wsX7_turns := goodIn_r _ [299, 127, 130, 222, 223, 224, 5, 225, 85, 132, 133, 134, 300, 301, 302, 303, 1163, 1164, 1165, 1166, 1167, 1168, 1169, 1170, 1171, 1172, 1173, 1174, 1175, 1176, 1177, 1178, 1179, 1180, 1181, 1182, 1183, 1184, 1185, 1186, 1187, 1188, 1189, 1190, 1191, 1192, 1193] rfl gw_wsX7_turns
set_option maxRecDepth 20000 in
theorem gw_wsX7_set : wsX7_set.all goodWord = true := by decide +kernel
set_option maxRecDepth 20000 in
theorem ggL_law_X7_set : GoodIn wsL_law wsX7_set := goodIn_r _ [320, 321, 128, 322, 129, 130, 222, 223, 224, 5, 225, 85, 132, 133, 134, 300, 301, 302, 303, 1163, 1164, 1165, 1166, 1167, 1168, 1169, 1170, 1171, 1172, 1173, 1174, 1175, 1176, 1177, 1178, 1179, 1180, 1181, 1182, 1183, 1184, 1185, 1186, 1187, 1188, 1189, 1190, 1191, 1192, 1193] rfl gw_wsX7_set
set_option maxRecDepth 20000 in
theorem gw_wsX7_cloth : wsX7_cloth.all goodWord = true := by decide +kernel
set_option maxRecDepth 20000 in
theorem ggL_law_X7_cloth : GoodIn wsL_law wsX7_cloth := goodIn_r _ [343, 85, 130, 254, 255, 256, 5, 257, 258, 259, 260, 344, 345, 346, 347, 238, 239, 240, 241, 348, 349, 350, 351, 352, 353, 354, 355, 234, 235, 236, 237, 226, 227, 228, 229, 132, 133, 134, 1163, 1164, 1165, 1166, 1167, 1168, 1169, 1170, 1171, 1172, 1173, 1174, 1175, 1176, 1177, 1178, 1179, 1180, 1181, 1182, 1183, 1184, 1185, 1186, 1187, 1188, 1189, 1190, 1191, 1192, 1193] rfl gw_wsX7_cloth
set_option maxRecDepth 20000 in
theorem gw_wsX7_rule : wsX7_rule.all goodWord = true := by decide +kernel
set_option maxRecDepth 20000 in
theorem ggL_law_X7_rule : GoodIn wsL_law wsX7_rule := goodIn_r _ [388, 321, 130, 132, 133, 5, 134, 389, 390, 391, 392, 85, 300, 301, 302, 303, 393, 394, 395, 396, 268, 269, 270, 1163, 1164, 1165, 1166, 1167, 1168, 1169, 1170, 1171, 1172, 1173, 1174, 1175, 1176, 1177, 1178, 1179, 1180, 1181, 1182, 1183, 1184, 1185, 1186, 1187, 1188, 1189, 1190, 1191, 1192, 1193] rfl gw_wsX7_rule
set_option maxRecDepth 20000 in
theorem gw_wsX7_deal : wsX7_deal.all goodWord = true := by decide +kernel
set_option maxRecDepth 20000 in
theorem ggL_law_X7_deal : GoodIn wsL_law wsX7_deal := goodIn_r _ [409, 410, 130, 85, 132, 133, 5, 134, 411, 412, 413, 414, 415, 135, 136, 137, 138, 139, 140, 141, 142, 1163, 1164, 1165, 1166, 1167, 1168, 1169, 1170, 1171, 1172, 1173, 1174, 1175, 1176, 1177, 1178, 1179, 1180, 1181, 1182, 1183, 1184, 1185, 1186, 1187, 1188, 1189, 1190, 1191, 1192, 1193] rfl gw_wsX7_deal
set_option maxRecDepth 20000 in
theorem gw_wsX7_seed : wsX7_seed.all goodWord = true := by decide +kernel
set_option maxRecDepth 20000 in
theorem ggL_law_X7_seed : GoodIn wsL_law wsX7_seed := goodIn_r _ [424, 300, 301, 302, 5, 303, 85, 1163, 1164, 1165, 1166, 1167, 1168, 1169, 1170, 1171, 1172, 1173, 1174, 1175, 1176, 1177, 1178, 1179, 1180, 1181, 1182, 1183, 1184, 1185, 1186, 1187, 1188, 1189, 1190, 1191, 1192, 1193] rfl gw_wsX7_seed
set_option maxRecDepth 20000 in
theorem gw_wsX7_hours : wsX7_hours.all goodWord = true := by decide +kernel
set_option maxRecDepth 20000 in
theorem ggL_law_X7_hours : GoodIn wsL_law wsX7_hours := goodIn_r _ [468, 469, 130, 85, 132, 133, 5, 134, 470, 471, 472, 473, 474, 475, 476, 477, 478, 479, 480, 481, 393, 394, 395, 396, 268, 269, 270, 482, 483, 484, 485, 234, 235, 236, 237, 226, 227, 228, 229, 238, 239, 240, 241, 230, 231, 232, 233, 242, 243, 244, 245, 98, 246, 247, 248, 249, 250, 251, 252, 253, 254, 255, 256, 257, 258, 259, 260, 261, 262, 263, 264, 99, 265, 266, 267, 486, 487, 488, 489, 139, 140, 141, 142, 411, 412, 413, 414, 415, 1163, 1164, 1165, 1166, 1167, 1168, 1169, 1170, 1171, 1172, 1173, 1174, 1175, 1176, 1177, 1178, 1179, 1180, 1181, 1182, 1183, 1184, 1185, 1186, 1187, 1188, 1189, 1190, 1191, 1192, 1193] rfl gw_wsX7_hours
set_option maxRecDepth 20000 in
theorem gw_wsX7_book : wsX7_book.all goodWord = true := by decide +kernel
set_option maxRecDepth 20000 in
theorem ggL_law_X7_book : GoodIn wsL_law wsX7_book := goodIn_r _ [503, 85, 130, 226, 227, 228, 5, 229, 1163, 1164, 1165, 1166, 1167, 1168, 1169, 1170, 1171, 1172, 1173, 1174, 1175, 1176, 1177, 1178, 1179, 1180, 1181, 1182, 1183, 1184, 1185, 1186, 1187, 1188, 1189, 1190, 1191, 1192, 1193] rfl gw_wsX7_book
set_option maxRecDepth 20000 in
theorem gw_wsX7_behind : wsX7_behind.all goodWord = true := by decide +kernel
set_option maxRecDepth 20000 in
theorem ggL_law_X7_behind : GoodIn wsL_law wsX7_behind := goodIn_r _ [526, 469, 321, 130, 85, 132, 133, 5, 134, 527, 528, 529, 530, 96, 531, 532, 533, 534, 470, 471, 472, 473, 474, 475, 476, 477, 478, 479, 480, 481, 393, 394, 395, 396, 268, 269, 270, 482, 483, 484, 485, 234, 235, 236, 237, 226, 227, 228, 229, 238, 239, 240, 241, 230, 231, 232, 233, 242, 243, 244, 245, 98, 246, 247, 248, 249, 250, 251, 252, 253, 254, 255, 256, 257, 258, 259, 260, 261, 262, 263, 264, 99, 265, 266, 267, 486, 487, 488, 489, 139, 140, 141, 142, 411, 412, 413, 414, 415, 535, 536, 537, 538, 1163, 1164, 1165, 1166, 1167, 1168, 1169, 1170, 1171, 1172, 1173, 1174, 1175, 1176, 1177, 1178, 1179, 1180, 1181, 1182, 1183, 1184, 1185, 1186, 1187, 1188, 1189, 1190, 1191, 1192, 1193] rfl gw_wsX7_behind
set_option maxRecDepth 20000 in
theorem gw_wsX7_goods : wsX7_goods.all goodWord = true := by decide +kernel
set_option maxRecDepth 20000 in
theorem ggL_law_X7_goods : GoodIn wsL_law wsX7_goods := goodIn_r _ [546, 469, 130, 222, 223, 224, 5, 225, 85, 132, 133, 134, 527, 528, 529, 530, 96, 531, 532, 533, 534, 470, 471, 472, 473, 474, 475, 476, 477, 478, 479, 480, 481, 393, 394, 395, 396, 268, 269, 270, 482, 483, 484, 485, 234, 235, 236, 237, 226, 227, 228, 229, 238, 239, 240, 241, 230, 231, 232, 233, 242, 243, 244, 245, 98, 246, 247, 248, 249, 250, 251, 252, 253, 254, 255, 256, 257, 258, 259, 260, 261, 262, 263, 264, 99, 265, 266, 267, 486, 487, 488, 489, 139, 140, 141, 142, 411, 412, 413, 414, 415, 535, 536, 537, 538, 1163, 1164, 1165, 1166, 1167, 1168, 1169, 1170, 1171, 1172, 1173, 1174, 1175, 1176, 1177, 1178, 1179, 1180, 1181, 1182, 1183, 1184, 1185, 1186, 1187, 1188, 1189, 1190, 1191, 1192, 1193] rfl gw_wsX7_goods
set_option maxRecDepth 20000 in
theorem gw_wsX7_best : wsX7_best.all goodWord = true := by decide +kernel
set_option maxRecDepth 20000 in
theorem ggL_law_X7_best : GoodIn wsL_law wsX7_best := goodIn_r _ [561, 127, 130, 85, 132, 133, 5, 134, 527, 528, 529, 530, 96, 486, 487, 488, 489, 393, 394, 395, 396, 268, 269, 270, 230, 231, 232, 233, 234, 235, 236, 237, 226, 227, 228, 229, 238, 239, 240, 241, 242, 243, 244, 245, 98, 246, 247, 248, 249, 250, 251, 252, 253, 254, 255, 256, 257, 258, 259, 260, 261, 262, 263, 264, 99, 265, 266, 267, 139, 140, 141, 142, 411, 412, 413, 414, 415, 535, 536, 537, 538, 1163, 1164, 1165, 1166, 1167, 1168, 1169, 1170, 1171, 1172, 1173, 1174, 1175, 1176, 1177, 1178, 1179, 1180, 1181, 1182, 1183, 1184, 1185, 1186, 1187, 1188, 1189, 1190, 1191, 1192, 1193] rfl gw_wsX7_best
set_option maxRecDepth 20000 in
theorem gw_wsX7_wider : wsX7_wider.all goodWord = true := by decide +kernel
set_option maxRecDepth 20000 in
theorem ggL_law_X7_wider : GoodIn wsL_law wsX7_wider := goodIn_r _ [570, 571, 572, 130, 85, 132, 133, 5, 134, 527, 528, 529, 530, 96, 393, 394, 395, 396, 268, 269, 270, 531, 532, 533, 534, 470, 471, 472, 473, 474, 475, 476, 477, 478, 479, 480, 481, 482, 483, 484, 485, 234, 235, 236, 237, 226, 227, 228, 229, 238, 239, 240, 241, 230, 231, 232, 233, 242, 243, 244, 245, 98, 246, 247, 248, 249, 250, 251, 252, 253, 254, 255, 256, 257, 258, 259, 260, 261, 262, 263, 264, 99, 265, 266, 267, 486, 487, 488, 489, 139, 140, 141, 142, 411, 412, 413, 414, 415, 535, 536, 537, 538, 348, 349, 350, 351, 1163, 1164, 1165, 1166, 1167, 1168, 1169, 1170, 1171, 1172, 1173, 1174, 1175, 1176, 1177, 1178, 1179, 1180, 1181, 1182, 1183, 1184, 1185, 1186, 1187, 1188, 1189, 1190, 1191, 1192, 1193] rfl gw_wsX7_wider
set_option maxRecDepth 20000 in
theorem gw_wsX7_shaded : wsX7_shaded.all goodWord = true := by decide +kernel
set_option maxRecDepth 20000 in
theorem ggL_law_X7_shaded : GoodIn wsL_law wsX7_shaded := goodIn_r _ [582, 572, 130, 85, 222, 223, 224, 5, 225, 132, 133, 134, 527, 528, 529, 530, 96, 474, 475, 476, 477, 478, 479, 480, 481, 393, 394, 395, 396, 268, 269, 270, 482, 483, 484, 485, 234, 235, 236, 237, 226, 227, 228, 229, 238, 239, 240, 241, 230, 231, 232, 233, 242, 243, 244, 245, 98, 246, 247, 248, 249, 250, 251, 252, 253, 254, 255, 256, 257, 258, 259, 260, 261, 262, 263, 264, 99, 265, 266, 267, 486, 487, 488, 489, 139, 140, 141, 142, 411, 412, 413, 414, 415, 535, 536, 537, 538, 1163, 1164, 1165, 1166, 1167, 1168, 1169, 1170, 1171, 1172, 1173, 1174, 1175, 1176, 1177, 1178, 1179, 1180, 1181, 1182, 1183, 1184, 1185, 1186, 1187, 1188, 1189, 1190, 1191, 1192, 1193] rfl gw_wsX7_shaded
set_option maxRecDepth 20000 in
theorem gw_wsX7_without : wsX7_without.all goodWord = true := by decide +kernel
set_option maxRecDepth 20000 in
theorem ggL_law_X7_without : GoodIn wsL_law wsX7_without := goodIn_r _ [590, 572, 130, 85, 351, 132, 133, 5, 134, 527, 528, 529, 530, 96, 139, 140, 141, 142, 531, 532, 533, 534, 470, 471, 472, 473, 474, 475, 476, 477, 478, 479, 480, 481, 393, 394, 395, 396, 268, 269, 270, 482, 483, 484, 485, 234, 235, 236, 237, 226, 227, 228, 229, 238, 239, 240, 241, 230, 231, 232, 233, 242, 243, 244, 245, 98, 246, 247, 248, 249, 250, 251, 252, 253, 254, 255, 256, 257, 258, 259, 260, 261, 262, 263, 264, 99, 265, 266, 267, 486, 487, 488, 489, 411, 412, 413, 414, 415, 535, 536, 537, 538, 1163, 1164, 1165, 1166, 1167, 1168, 1169, 1170, 1171, 1172, 1173, 1174, 1175, 1176, 1177, 1178, 1179, 1180, 1181, 1182, 1183, 1184, 1185, 1186, 1187, 1188, 1189, 1190, 1191, 1192, 1193] rfl gw_wsX7_without
set_option maxRecDepth 20000 in
theorem gw_wsX7_whose : wsX7_whose.all goodWord = true := by decide +kernel
set_option maxRecDepth 20000 in
theorem ggL_law_X7_whose : GoodIn wsL_law wsX7_whose := goodIn_r _ [621, 572, 130, 88, 622, 85, 89, 90, 351, 623, 624, 5, 625, 321, 132, 133, 134, 527, 528, 529, 530, 96, 531, 532, 533, 534, 470, 471, 472, 473, 474, 475, 476, 477, 478, 479, 480, 481, 393, 394, 395, 396, 268, 269, 270, 482, 483, 484, 485, 234, 235, 236, 237, 226, 227, 228, 229, 238, 239, 240, 241, 230, 231, 232, 233, 242, 243, 244, 245, 98, 246, 247, 248, 249, 250, 251, 252, 253, 254, 255, 256, 257, 258, 259, 260, 261, 262, 263, 264, 99, 265, 266, 267, 486, 487, 488, 489, 139, 140, 141, 142, 411, 412, 413, 414, 415, 535, 536, 537, 538, 1163, 1164, 1165, 1166, 1167, 1168, 1169, 1170, 1171, 1172, 1173, 1174, 1175, 1176, 1177, 1178, 1179, 1180, 1181, 1182, 1183, 1184, 1185, 1186, 1187, 1188, 1189, 1190, 1191, 1192, 1193] rfl gw_wsX7_whose
set_option maxRecDepth 20000 in
theorem gw_wsX7_fee : wsX7_fee.all goodWord = true := by decide +kernel
set_option maxRecDepth 20000 in
theorem ggL_law_X7_fee : GoodIn wsL_law wsX7_fee := goodIn_r _ [635, 85, 98, 246, 247, 248, 5, 249, 250, 251, 252, 253, 261, 262, 263, 264, 99, 265, 266, 267, 1163, 1164, 1165, 1166, 1167, 1168, 1169, 1170, 1171, 1172, 1173, 1174, 1175, 1176, 1177, 1178, 1179, 1180, 1181, 1182, 1183, 1184, 1185, 1186, 1187, 1188, 1189, 1190, 1191, 1192, 1193] rfl gw_wsX7_fee
set_option maxRecDepth 20000 in
theorem gw_wsX7_fine : wsX7_fine.all goodWord = true := by decide +kernel
set_option maxRecDepth 20000 in
theorem ggL_law_X7_fine : GoodIn wsL_law wsX7_fine := goodIn_r _ [643, 130, 98, 222, 223, 224, 5, 225, 85, 132, 133, 134, 246, 247, 248, 249, 250, 251, 252, 253, 226, 227, 228, 229, 234, 235, 236, 237, 238, 239, 240, 241, 261, 262, 263, 264, 99, 265, 266, 267, 1163, 1164, 1165, 1166, 1167, 1168, 1169, 1170, 1171, 1172, 1173, 1174, 1175, 1176, 1177, 1178, 1179, 1180, 1181, 1182, 1183, 1184, 1185, 1186, 1187, 1188, 1189, 1190, 1191, 1192, 1193] rfl gw_wsX7_fine
set_option maxRecDepth 20000 in
theorem gw_wsX7_feed : wsX7_feed.all goodWord = true := by decide +kernel
set_option maxRecDepth 20000 in
theorem ggL_law_X7_feed : GoodIn wsL_law wsX7_feed := goodIn_r _ [656, 657, 131, 97, 1163, 1164, 1165, 1166, 1167, 1168, 1169, 1170, 1171, 1172, 1173, 1174, 1175, 1176, 1177, 1178, 1179, 1180, 1181, 1182, 1183, 1184, 1185, 1186, 1187, 1188, 1189, 1190, 1191, 1192, 1193] rfl gw_wsX7_feed
set_option maxRecDepth 20000 in
theorem gw_wsX7_trim : wsX7_trim.all goodWord = true := by decide +kernel
set_option maxRecDepth 20000 in
theorem ggL_law_X7_trim : GoodIn wsL_law wsX7_trim := goodIn_r _ [665, 657, 130, 132, 133, 5, 134, 1163, 1164, 1165, 1166, 1167, 1168, 1169, 1170, 1171, 1172, 1173, 1174, 1175, 1176, 1177, 1178, 1179, 1180, 1181, 1182, 1183, 1184, 1185, 1186, 1187, 1188, 1189, 1190, 1191, 1192, 1193] rfl gw_wsX7_trim
set_option maxRecDepth 20000 in
theorem gw_wsX7_text : wsX7_text.all goodWord = true := by decide +kernel
set_option maxRecDepth 20000 in
theorem ggL_law_X7_text : GoodIn wsL_law wsX7_text := goodIn_r _ [870, 871, 85, 131, 872, 873, 874, 875, 876, 5, 877, 878, 879, 880, 881, 882, 657, 250, 251, 252, 253, 883, 884, 885, 886, 97, 887, 888, 889, 890, 891, 892, 893, 894, 132, 133, 134, 895, 896, 897, 898, 899, 900, 901, 902, 903, 904, 905, 906, 907, 908, 909, 910, 911, 912, 913, 914, 915, 916, 917, 918, 919, 920, 921, 922, 923, 924, 925, 926, 927, 928, 929, 930, 931, 932, 933, 934, 935, 936, 937, 938, 939, 940, 941, 942, 943, 1163, 1164, 1165, 1166, 1167, 1168, 1169, 1170, 1171, 1172, 1173, 1174, 1175, 1176, 1177, 1178, 1179, 1180, 1181, 1182, 1183, 1184, 1185, 1186, 1187, 1188, 1189, 1190, 1191, 1192, 1193] rfl gw_wsX7_text
set_option maxRecDepth 20000 in
theorem gw_wsX7_textTold : wsX7_textTold.all goodWord = true := by decide +kernel
set_option maxRecDepth 20000 in
theorem ggL_law_X7_textTold : GoodIn wsL_law wsX7_textTold := goodIn_r _ [953, 130, 85, 954, 955, 956, 5, 957, 132, 133, 134, 250, 251, 252, 253, 1163, 1164, 1165, 1166, 1167, 1168, 1169, 1170, 1171, 1172, 1173, 1174, 1175, 1176, 1177, 1178, 1179, 1180, 1181, 1182, 1183, 1184, 1185, 1186, 1187, 1188, 1189, 1190, 1191, 1192, 1193] rfl gw_wsX7_textTold
set_option maxRecDepth 20000 in
theorem gw_wsX7_why : wsX7_why.all goodWord = true := by decide +kernel
set_option maxRecDepth 20000 in
theorem ggL_law_X7_why : GoodIn wsL_law wsX7_why := goodIn_r _ [965, 966, 130, 132, 133, 5, 134, 246, 247, 248, 249, 85, 250, 251, 252, 253, 348, 349, 350, 351, 1163, 1164, 1165, 1166, 1167, 1168, 1169, 1170, 1171, 1172, 1173, 1174, 1175, 1176, 1177, 1178, 1179, 1180, 1181, 1182, 1183, 1184, 1185, 1186, 1187, 1188, 1189, 1190, 1191, 1192, 1193] rfl gw_wsX7_why
set_option maxRecDepth 20000 in
theorem gw_wsX7_sheet : wsX7_sheet.all goodWord = true := by decide +kernel
set_option maxRecDepth 20000 in
theorem ggL_law_X7_sheet : GoodIn wsL_law wsX7_sheet := goodIn_r _ [979, 980, 130, 981, 88, 89, 90, 623, 624, 5, 625, 321, 132, 133, 134, 1163, 1164, 1165, 1166, 1167, 1168, 1169, 1170, 1171, 1172, 1173, 1174, 1175, 1176, 1177, 1178, 1179, 1180, 1181, 1182, 1183, 1184, 1185, 1186, 1187, 1188, 1189, 1190, 1191, 1192, 1193] rfl gw_wsX7_sheet
set_option maxRecDepth 20000 in
theorem gw_wsX7_mark : wsX7_mark.all goodWord = true := by decide +kernel
set_option maxRecDepth 20000 in
theorem ggL_law_X7_mark : GoodIn wsL_law wsX7_mark := goodIn_r _ [995, 130, 88, 622, 89, 996, 351, 288, 997, 998, 90, 623, 624, 5, 625, 321, 132, 133, 134, 1163, 1164, 1165, 1166, 1167, 1168, 1169, 1170, 1171, 1172, 1173, 1174, 1175, 1176, 1177, 1178, 1179, 1180, 1181, 1182, 1183, 1184, 1185, 1186, 1187, 1188, 1189, 1190, 1191, 1192, 1193] rfl gw_wsX7_mark
set_option maxRecDepth 20000 in
theorem gw_wsX7_pour : wsX7_pour.all goodWord = true := by decide +kernel
set_option maxRecDepth 20000 in
theorem ggL_law_X7_pour : GoodIn wsL_law wsX7_pour := goodIn_r _ [1008, 130, 88, 622, 89, 85, 90, 351, 623, 624, 5, 625, 321, 132, 133, 134, 268, 269, 270, 300, 301, 302, 303, 1163, 1164, 1165, 1166, 1167, 1168, 1169, 1170, 1171, 1172, 1173, 1174, 1175, 1176, 1177, 1178, 1179, 1180, 1181, 1182, 1183, 1184, 1185, 1186, 1187, 1188, 1189, 1190, 1191, 1192, 1193] rfl gw_wsX7_pour
set_option maxRecDepth 20000 in
theorem gw_wsX7_reads : wsX7_reads.all goodWord = true := by decide +kernel
set_option maxRecDepth 20000 in
theorem ggL_law_X7_reads : GoodIn wsL_law wsX7_reads := goodIn_r _ [1017, 130, 88, 622, 89, 90, 351, 85, 623, 624, 5, 625, 321, 132, 133, 134, 230, 231, 232, 233, 234, 235, 236, 237, 226, 227, 228, 229, 238, 239, 240, 241, 242, 243, 244, 245, 98, 246, 247, 248, 249, 250, 251, 252, 253, 254, 255, 256, 257, 258, 259, 260, 261, 262, 263, 264, 99, 265, 266, 267, 268, 269, 270, 1163, 1164, 1165, 1166, 1167, 1168, 1169, 1170, 1171, 1172, 1173, 1174, 1175, 1176, 1177, 1178, 1179, 1180, 1181, 1182, 1183, 1184, 1185, 1186, 1187, 1188, 1189, 1190, 1191, 1192, 1193] rfl gw_wsX7_reads
set_option maxRecDepth 20000 in
theorem gw_wsX7_copy : wsX7_copy.all goodWord = true := by decide +kernel
set_option maxRecDepth 20000 in
theorem ggL_law_X7_copy : GoodIn wsL_law wsX7_copy := goodIn_r _ [1030, 130, 88, 622, 288, 89, 996, 100, 90, 623, 624, 5, 625, 321, 132, 133, 134, 1163, 1164, 1165, 1166, 1167, 1168, 1169, 1170, 1171, 1172, 1173, 1174, 1175, 1176, 1177, 1178, 1179, 1180, 1181, 1182, 1183, 1184, 1185, 1186, 1187, 1188, 1189, 1190, 1191, 1192, 1193] rfl gw_wsX7_copy
set_option maxRecDepth 20000 in
theorem gw_wsX7_lay : wsX7_lay.all goodWord = true := by decide +kernel
set_option maxRecDepth 20000 in
theorem ggL_law_X7_lay : GoodIn wsL_law wsX7_lay := goodIn_r _ [1051, 130, 88, 622, 91, 92, 93, 94, 89, 95, 90, 222, 223, 224, 5, 225, 85, 132, 133, 134, 623, 624, 625, 321, 1052, 1053, 1054, 1055, 226, 227, 228, 229, 271, 272, 273, 274, 1163, 1164, 1165, 1166, 1167, 1168, 1169, 1170, 1171, 1172, 1173, 1174, 1175, 1176, 1177, 1178, 1179, 1180, 1181, 1182, 1183, 1184, 1185, 1186, 1187, 1188, 1189, 1190, 1191, 1192, 1193] rfl gw_wsX7_lay
set_option maxRecDepth 20000 in
theorem gw_wsX7_ask : wsX7_ask.all goodWord = true := by decide +kernel
set_option maxRecDepth 20000 in
theorem ggL_law_X7_ask : GoodIn wsL_law wsX7_ask := goodIn_r _ [1069, 127, 130, 91, 622, 92, 93, 288, 1052, 1053, 5, 1054, 1055, 132, 133, 134, 289, 290, 291, 1163, 1164, 1165, 1166, 1167, 1168, 1169, 1170, 1171, 1172, 1173, 1174, 1175, 1176, 1177, 1178, 1179, 1180, 1181, 1182, 1183, 1184, 1185, 1186, 1187, 1188, 1189, 1190, 1191, 1192, 1193] rfl gw_wsX7_ask
set_option maxRecDepth 20000 in
theorem gw_wsX7_item : wsX7_item.all goodWord = true := by decide +kernel
set_option maxRecDepth 20000 in
theorem ggL_law_X7_item : GoodIn wsL_law wsX7_item := goodIn_r _ [1077, 130, 91, 622, 288, 94, 996, 95, 351, 1052, 1053, 5, 1054, 1055, 132, 133, 134, 1163, 1164, 1165, 1166, 1167, 1168, 1169, 1170, 1171, 1172, 1173, 1174, 1175, 1176, 1177, 1178, 1179, 1180, 1181, 1182, 1183, 1184, 1185, 1186, 1187, 1188, 1189, 1190, 1191, 1192, 1193] rfl gw_wsX7_item
set_option maxRecDepth 20000 in
theorem gw_wsX7_rest : wsX7_rest.all goodWord = true := by decide +kernel
set_option maxRecDepth 20000 in
theorem ggL_law_X7_rest : GoodIn wsL_law wsX7_rest := goodIn_r _ [1086, 130, 91, 622, 288, 1087, 92, 1052, 1053, 5, 1054, 1055, 132, 133, 134, 1163, 1164, 1165, 1166, 1167, 1168, 1169, 1170, 1171, 1172, 1173, 1174, 1175, 1176, 1177, 1178, 1179, 1180, 1181, 1182, 1183, 1184, 1185, 1186, 1187, 1188, 1189, 1190, 1191, 1192, 1193] rfl gw_wsX7_rest
set_option maxRecDepth 20000 in
theorem gw_wsX7_tell : wsX7_tell.all goodWord = true := by decide +kernel
set_option maxRecDepth 20000 in
theorem ggL_law_X7_tell : GoodIn wsL_law wsX7_tell := goodIn_r _ [1096, 1097, 131, 101, 1163, 1164, 1165, 1166, 1167, 1168, 1169, 1170, 1171, 1172, 1173, 1174, 1175, 1176, 1177, 1178, 1179, 1180, 1181, 1182, 1183, 1184, 1185, 1186, 1187, 1188, 1189, 1190, 1191, 1192, 1193] rfl gw_wsX7_tell
set_option maxRecDepth 20000 in
theorem gw_wsX7_check : wsX7_check.all goodWord = true := by decide +kernel
set_option maxRecDepth 20000 in
theorem ggL_law_X7_check : GoodIn wsL_law wsX7_check := goodIn_r _ [1106, 1097, 1107, 130, 1108, 1087, 85, 87, 86, 102, 101, 132, 133, 5, 134, 1109, 1110, 1111, 1112, 470, 471, 472, 473, 474, 475, 476, 477, 478, 479, 480, 481, 393, 394, 395, 396, 268, 269, 270, 482, 483, 484, 485, 234, 235, 236, 237, 226, 227, 228, 229, 238, 239, 240, 241, 230, 231, 232, 233, 242, 243, 244, 245, 98, 246, 247, 248, 249, 250, 251, 252, 253, 254, 255, 256, 257, 258, 259, 260, 261, 262, 263, 264, 99, 265, 266, 267, 486, 487, 488, 489, 139, 140, 141, 142, 411, 412, 413, 414, 415, 1163, 1164, 1165, 1166, 1167, 1168, 1169, 1170, 1171, 1172, 1173, 1174, 1175, 1176, 1177, 1178, 1179, 1180, 1181, 1182, 1183, 1184, 1185, 1186, 1187, 1188, 1189, 1190, 1191, 1192, 1193] rfl gw_wsX7_check
set_option maxRecDepth 20000 in
theorem gw_wsX7_keep : wsX7_keep.all goodWord = true := by decide +kernel
set_option maxRecDepth 20000 in
theorem ggL_law_X7_keep : GoodIn wsL_law wsX7_keep := goodIn_r _ [1120, 1108, 85, 86, 1109, 1110, 1111, 5, 1112, 1163, 1164, 1165, 1166, 1167, 1168, 1169, 1170, 1171, 1172, 1173, 1174, 1175, 1176, 1177, 1178, 1179, 1180, 1181, 1182, 1183, 1184, 1185, 1186, 1187, 1188, 1189, 1190, 1191, 1192, 1193] rfl gw_wsX7_keep
set_option maxRecDepth 20000 in
theorem gw_wsX7_back : wsX7_back.all goodWord = true := by decide +kernel
set_option maxRecDepth 20000 in
theorem ggL_law_X7_back : GoodIn wsL_law wsX7_back := goodIn_r _ [1128, 1108, 1087, 86, 85, 1109, 1110, 1111, 5, 1112, 1163, 1164, 1165, 1166, 1167, 1168, 1169, 1170, 1171, 1172, 1173, 1174, 1175, 1176, 1177, 1178, 1179, 1180, 1181, 1182, 1183, 1184, 1185, 1186, 1187, 1188, 1189, 1190, 1191, 1192, 1193] rfl gw_wsX7_back
set_option maxRecDepth 20000 in
theorem gw_wsX7_count : wsX7_count.all goodWord = true := by decide +kernel
set_option maxRecDepth 20000 in
theorem ggL_law_X7_count : GoodIn wsL_law wsX7_count := goodIn_r _ [1143, 85, 1097, 657, 130, 1144, 1145, 1146, 5, 1147, 352, 353, 354, 355, 234, 235, 236, 237, 226, 227, 228, 229, 238, 239, 240, 241, 132, 133, 134, 1163, 1164, 1165, 1166, 1167, 1168, 1169, 1170, 1171, 1172, 1173, 1174, 1175, 1176, 1177, 1178, 1179, 1180, 1181, 1182, 1183, 1184, 1185, 1186, 1187, 1188, 1189, 1190, 1191, 1192, 1193] rfl gw_wsX7_count
set_option maxRecDepth 20000 in
theorem gL_law_X7_init : GoodIn wsL_law (wsX7_init) := ggL_law_X7_init
set_option maxRecDepth 20000 in
theorem gL_law_X7_stall : GoodIn wsL_law (wsV RL 17 RX7 yX7_stall wsX7_stall) := goodIn_app (goodIn_r _ [123, 124, 125, 5] (by decide +kernel) (by decide +kernel)) ggL_law_X7_stall
set_option maxRecDepth 20000 in
theorem gL_law_X7_told : GoodIn wsL_law (wsV RL 22 RX7 yX7_told wsX7_told) := goodIn_app (goodIn_r _ [218, 219, 220, 5] (by decide +kernel) (by decide +kernel)) ggL_law_X7_told
set_option maxRecDepth 20000 in
theorem gL_law_X7_as : GoodIn wsL_law (wsV RL 26 RX7 yX7_as wsX7_as) := goodIn_app (goodIn_r _ [284, 285, 286, 5] (by decide +kernel) (by decide +kernel)) ggL_law_X7_as
set_option maxRecDepth 20000 in
theorem gL_law_X7_turns : GoodIn wsL_law (wsV RL 30 RX7 yX7_turns wsX7_turns) := goodIn_app (goodIn_r _ [296, 297, 298, 5] (by decide +kernel) (by decide +kernel)) ggL_law_X7_turns
set_option maxRecDepth 20000 in
theorem gL_law_X7_set : GoodIn wsL_law (wsV RL 34 RX7 yX7_set wsX7_set) := goodIn_app (goodIn_r _ [317, 318, 319, 5] (by decide +kernel) (by decide +kernel)) ggL_law_X7_set
set_option maxRecDepth 20000 in
theorem gL_law_X7_cloth : GoodIn wsL_law (wsV RL 39 RX7 yX7_cloth wsX7_cloth) := goodIn_app (goodIn_r _ [340, 341, 342, 5] (by decide +kernel) (by decide +kernel)) ggL_law_X7_cloth
set_option maxRecDepth 20000 in
theorem gL_law_X7_rule : GoodIn wsL_law (wsV RL 43 RX7 yX7_rule wsX7_rule) := goodIn_app (goodIn_r _ [385, 386, 387, 5] (by decide +kernel) (by decide +kernel)) ggL_law_X7_rule
set_option maxRecDepth 20000 in
theorem gL_law_X7_deal : GoodIn wsL_law (wsV RL 47 RX7 yX7_deal wsX7_deal) := goodIn_app (goodIn_r _ [406, 407, 408, 5] (by decide +kernel) (by decide +kernel)) ggL_law_X7_deal
set_option maxRecDepth 20000 in
theorem gL_law_X7_seed : GoodIn wsL_law (wsV RL 51 RX7 yX7_seed wsX7_seed) := goodIn_app (goodIn_r _ [421, 422, 423, 5] (by decide +kernel) (by decide +kernel)) ggL_law_X7_seed
set_option maxRecDepth 20000 in
theorem gL_law_X7_hours : GoodIn wsL_law (wsV RL 55 RX7 yX7_hours wsX7_hours) := goodIn_app (goodIn_r _ [465, 466, 467, 5] (by decide +kernel) (by decide +kernel)) ggL_law_X7_hours
set_option maxRecDepth 20000 in
theorem gL_law_X7_book : GoodIn wsL_law (wsV RL 59 RX7 yX7_book wsX7_book) := goodIn_app (goodIn_r _ [500, 501, 502, 5] (by decide +kernel) (by decide +kernel)) ggL_law_X7_book
set_option maxRecDepth 20000 in
theorem gL_law_X7_behind : GoodIn wsL_law (wsV RL 63 RX7 yX7_behind wsX7_behind) := goodIn_app (goodIn_r _ [523, 524, 525, 5] (by decide +kernel) (by decide +kernel)) ggL_law_X7_behind
set_option maxRecDepth 20000 in
theorem gL_law_X7_goods : GoodIn wsL_law (wsV RL 67 RX7 yX7_goods wsX7_goods) := goodIn_app (goodIn_r _ [543, 544, 545, 5] (by decide +kernel) (by decide +kernel)) ggL_law_X7_goods
set_option maxRecDepth 20000 in
theorem gL_law_X7_best : GoodIn wsL_law (wsV RL 71 RX7 yX7_best wsX7_best) := goodIn_app (goodIn_r _ [558, 559, 560, 5] (by decide +kernel) (by decide +kernel)) ggL_law_X7_best
set_option maxRecDepth 20000 in
theorem gL_law_X7_wider : GoodIn wsL_law (wsV RL 75 RX7 yX7_wider wsX7_wider) := goodIn_app (goodIn_r _ [567, 568, 569, 5] (by decide +kernel) (by decide +kernel)) ggL_law_X7_wider
set_option maxRecDepth 20000 in
theorem gL_law_X7_shaded : GoodIn wsL_law (wsV RL 79 RX7 yX7_shaded wsX7_shaded) := goodIn_app (goodIn_r _ [579, 580, 581, 5] (by decide +kernel) (by decide +kernel)) ggL_law_X7_shaded
set_option maxRecDepth 20000 in
theorem gL_law_X7_without : GoodIn wsL_law (wsV RL 83 RX7 yX7_without wsX7_without) := goodIn_app (goodIn_r _ [587, 588, 589, 5] (by decide +kernel) (by decide +kernel)) ggL_law_X7_without
set_option maxRecDepth 20000 in
theorem gL_law_X7_whose : GoodIn wsL_law (wsV RL 87 RX7 yX7_whose wsX7_whose) := goodIn_app (goodIn_r _ [618, 619, 620, 5] (by decide +kernel) (by decide +kernel)) ggL_law_X7_whose
set_option maxRecDepth 20000 in
theorem gL_law_X7_fee : GoodIn wsL_law (wsV RL 92 RX7 yX7_fee wsX7_fee) := goodIn_app (goodIn_r _ [632, 633, 634, 5] (by decide +kernel) (by decide +kernel)) ggL_law_X7_fee
set_option maxRecDepth 20000 in
theorem gL_law_X7_fine : GoodIn wsL_law (wsV RL 96 RX7 yX7_fine wsX7_fine) := goodIn_app (goodIn_r _ [640, 641, 642, 5] (by decide +kernel) (by decide +kernel)) ggL_law_X7_fine
set_option maxRecDepth 20000 in
theorem gL_law_X7_feed : GoodIn wsL_law (wsV RL 100 RX7 yX7_feed wsX7_feed) := goodIn_app (goodIn_r _ [653, 654, 655, 5] (by decide +kernel) (by decide +kernel)) ggL_law_X7_feed
set_option maxRecDepth 20000 in
theorem gL_law_X7_trim : GoodIn wsL_law (wsV RL 104 RX7 yX7_trim wsX7_trim) := goodIn_app (goodIn_r _ [662, 663, 664, 5] (by decide +kernel) (by decide +kernel)) ggL_law_X7_trim
set_option maxRecDepth 20000 in
theorem gL_law_X7_text : GoodIn wsL_law (wsV RL 108 RX7 yX7_text wsX7_text) := goodIn_app (goodIn_r _ [867, 868, 869, 5] (by decide +kernel) (by decide +kernel)) ggL_law_X7_text
set_option maxRecDepth 20000 in
theorem gL_law_X7_textTold : GoodIn wsL_law (wsV RL 112 RX7 yX7_textTold wsX7_textTold) := goodIn_app (goodIn_r _ [950, 951, 952, 5] (by decide +kernel) (by decide +kernel)) ggL_law_X7_textTold
set_option maxRecDepth 20000 in
theorem gL_law_X7_why : GoodIn wsL_law (wsV RL 116 RX7 yX7_why wsX7_why) := goodIn_app (goodIn_r _ [962, 963, 964, 5] (by decide +kernel) (by decide +kernel)) ggL_law_X7_why
set_option maxRecDepth 20000 in
theorem gL_law_X7_sheet : GoodIn wsL_law (wsV RL 120 RX7 yX7_sheet wsX7_sheet) := goodIn_app (goodIn_r _ [976, 977, 978, 5] (by decide +kernel) (by decide +kernel)) ggL_law_X7_sheet
set_option maxRecDepth 20000 in
theorem gL_law_X7_mark : GoodIn wsL_law (wsV RL 124 RX7 yX7_mark wsX7_mark) := goodIn_app (goodIn_r _ [992, 993, 994, 5] (by decide +kernel) (by decide +kernel)) ggL_law_X7_mark
set_option maxRecDepth 20000 in
theorem gL_law_X7_pour : GoodIn wsL_law (wsV RL 128 RX7 yX7_pour wsX7_pour) := goodIn_app (goodIn_r _ [1005, 1006, 1007, 5] (by decide +kernel) (by decide +kernel)) ggL_law_X7_pour
set_option maxRecDepth 20000 in
theorem gL_law_X7_reads : GoodIn wsL_law (wsV RL 132 RX7 yX7_reads wsX7_reads) := goodIn_app (goodIn_r _ [1014, 1015, 1016, 5] (by decide +kernel) (by decide +kernel)) ggL_law_X7_reads
set_option maxRecDepth 20000 in
theorem gL_law_X7_copy : GoodIn wsL_law (wsV RL 137 RX7 yX7_copy wsX7_copy) := goodIn_app (goodIn_r _ [1027, 1028, 1029, 5] (by decide +kernel) (by decide +kernel)) ggL_law_X7_copy
set_option maxRecDepth 20000 in
theorem gL_law_X7_lay : GoodIn wsL_law (wsV RL 141 RX7 yX7_lay wsX7_lay) := goodIn_app (goodIn_r _ [1048, 1049, 1050, 5] (by decide +kernel) (by decide +kernel)) ggL_law_X7_lay
set_option maxRecDepth 20000 in
theorem gL_law_X7_ask : GoodIn wsL_law (wsV RL 145 RX7 yX7_ask wsX7_ask) := goodIn_app (goodIn_r _ [1066, 1067, 1068, 5] (by decide +kernel) (by decide +kernel)) ggL_law_X7_ask
set_option maxRecDepth 20000 in
theorem gL_law_X7_item : GoodIn wsL_law (wsV RL 149 RX7 yX7_item wsX7_item) := goodIn_app (goodIn_r _ [1074, 1075, 1076, 5] (by decide +kernel) (by decide +kernel)) ggL_law_X7_item
set_option maxRecDepth 20000 in
theorem gL_law_X7_rest : GoodIn wsL_law (wsV RL 153 RX7 yX7_rest wsX7_rest) := goodIn_app (goodIn_r _ [1083, 1084, 1085, 5] (by decide +kernel) (by decide +kernel)) ggL_law_X7_rest
set_option maxRecDepth 20000 in
theorem gL_law_X7_tell : GoodIn wsL_law (wsV RL 157 RX7 yX7_tell wsX7_tell) := goodIn_app (goodIn_r _ [1093, 1094, 1095, 5] (by decide +kernel) (by decide +kernel)) ggL_law_X7_tell
set_option maxRecDepth 20000 in
theorem gL_law_X7_check : GoodIn wsL_law (wsV RL 161 RX7 yX7_check wsX7_check) := goodIn_app (goodIn_r _ [1103, 1104, 1105, 5] (by decide +kernel) (by decide +kernel)) ggL_law_X7_check
set_option maxRecDepth 20000 in
theorem gL_law_X7_keep : GoodIn wsL_law (wsV RL 165 RX7 yX7_keep wsX7_keep) := goodIn_app (goodIn_r _ [1117, 1118, 1119, 5] (by decide +kernel) (by decide +kernel)) ggL_law_X7_keep
set_option maxRecDepth 20000 in
theorem gL_law_X7_back : GoodIn wsL_law (wsV RL 169 RX7 yX7_back wsX7_back) := goodIn_app (goodIn_r _ [1125, 1126, 1127, 5] (by decide +kernel) (by decide +kernel)) ggL_law_X7_back
set_option maxRecDepth 20000 in
theorem gL_law_X7_count : GoodIn wsL_law (wsV RL 173 RX7 yX7_count wsX7_count) := goodIn_app (goodIn_r _ [1140, 1141, 1142, 5] (by decide +kernel) (by decide +kernel)) ggL_law_X7_count
