def bsL : List (List Cond) := [wsL_law_r1, wsL_law_r2, wsL_law_r3, wsL_law_r4, wsL_law_r5, wsL_law_r6, wsL_law_r7, wsL_law_r8, wsL_law_r9, wsL_law_r10, wsL_law_r11, wsL_law_r12, wsL_law_r13, wsL_law_r14, wsL_law_r15, wsL_law_r16, wsL_law_r17, wsL_law_r18, wsL_law_r19, wsL_law_r20, wsL_law_r21, wsL_law_r22, wsL_law_r23, wsL_law_r24, wsL_law_r25, wsL_law_r26, wsL_law_r27, wsL_law_r28, wsL_law_r29, wsL_law_r30, wsL_law_r31, wsL_law_r32, wsL_law_r33, wsL_law_r34, wsL_law_r35, wsL_law_r36, wsL_law_r37, wsL_law_r38, wsL_law_r39, wsL_law_r40, wsL_law_r41, wsL_law_r42, wsL_law_r43, wsL_law_r44, wsL_law_r45, wsL_law_r46, wsL_law_r47, wsL_law_r48, wsX60, wsX70, wsX50, wsX00, wsX20, wsX30, wsX10, wsX40]
theorem bsL_e : wsL_law = bsL.flatten := by
  unfold wsL_law bsL
  simp only [List.flatten_cons, List.flatten_nil, List.append_nil, List.append_assoc]
set_option maxRecDepth 20000 in
theorem gw_wsX6_init : wsX6_init.all goodWord = true := by decide +kernel
set_option maxRecDepth 20000 in
theorem ggL_law_X6_init : GoodIn wsL_law wsX6_init := goodIn_pc bsL bsL_e _ [(0, [8, 9, 10, 11, 12, 13, 14, 15, 16, 17, 18, 19, 20, 21, 22, 23]), (1, [0, 1, 2, 3, 4, 5, 6, 7, 8, 9, 10, 11, 12, 13, 14, 15, 16, 17, 18, 19, 20, 21, 22, 23]), (2, [0, 1, 2, 3, 4, 5, 6, 7, 8, 9, 10, 11, 12, 13, 14, 15, 16, 17, 18, 19, 20, 21, 22, 23]), (3, [0, 1, 2, 3, 4, 5, 6, 7, 8]), (48, [0, 1, 2, 3, 4, 5, 6, 7, 8, 9, 10, 11, 12, 13, 14]), (50, [0, 1, 2, 3, 4]), (51, [0, 1, 2, 3, 4, 5, 6, 7, 8, 9, 10, 11, 12, 13]), (52, [0, 1, 2]), (53, [0, 1, 2, 3]), (54, [0, 1, 2, 3, 4, 5, 6, 7]), (55, [0, 1, 2, 3])] rfl gw_wsX6_init
set_option maxRecDepth 20000 in
theorem gw_wsX6_stall : wsX6_stall.all goodWord = true := by decide +kernel
set_option maxRecDepth 20000 in
theorem ggL_law_X6_stall : GoodIn wsL_law wsX6_stall := goodIn_pc bsL bsL_e _ [(4, [10, 11]), (1, [5]), (4, [12, 13, 14, 15]), (0, [2]), (4, [16, 17, 18, 19]), (1, [0]), (4, [20, 21, 22]), (2, [0]), (4, [23]), (5, [0, 1, 2]), (48, [0, 1, 2, 3, 4, 5, 6, 7, 8, 9, 10, 11, 12, 13, 14]), (51, [0, 1, 2, 3, 4, 5, 6, 7, 8, 9, 10, 11, 12, 13]), (55, [0, 1, 2, 3])] rfl gw_wsX6_stall
set_option maxRecDepth 20000 in
theorem gw_wsX6_told : wsX6_told.all goodWord = true := by decide +kernel
set_option maxRecDepth 20000 in
theorem ggL_law_X6_told : GoodIn wsL_law wsX6_told := goodIn_pc bsL bsL_e _ [(6, [2]), (4, [11]), (1, [5]), (6, [3, 4, 5, 6, 7, 8, 9, 10]), (0, [2]), (6, [11]), (4, [12, 14, 15, 16]), (6, [12, 13, 14]), (1, [0]), (6, [15]), (5, [1, 0]), (6, [16, 17, 18, 19, 20, 21, 22, 23]), (7, [0, 1, 2, 3, 4]), (2, [3]), (7, [5, 6, 7, 8, 9, 10, 11, 12]), (2, [9]), (7, [13, 14, 15, 16, 17, 18]), (2, [2, 7]), (5, [2]), (7, [19, 20, 21, 22, 23]), (8, [0, 1, 2, 3, 4]), (0, [22]), (8, [5, 6]), (1, [17, 18]), (8, [7, 8, 9, 10, 11, 12, 13, 14, 15, 16, 17, 18, 19, 20, 21, 22, 23]), (9, [0, 1]), (48, [0, 1, 2, 3, 4, 5, 6, 7, 8, 9, 10, 11, 12, 13, 14]), (51, [0, 1, 2, 3, 4, 5, 6, 7, 8, 9, 10, 11, 12, 13]), (55, [0, 1, 2, 3]), (50, [0, 1, 2, 3, 4])] rfl gw_wsX6_told
set_option maxRecDepth 20000 in
theorem gw_wsX6_as : wsX6_as.all goodWord = true := by decide +kernel
set_option maxRecDepth 20000 in
theorem ggL_law_X6_as : GoodIn wsL_law wsX6_as := goodIn_pc bsL bsL_e _ [(11, [14]), (4, [11]), (1, [5]), (6, [3, 7]), (11, [15]), (6, [8, 9, 10]), (0, [2]), (6, [11]), (4, [12, 14, 15, 16]), (11, [16, 17, 18]), (2, [9]), (11, [19]), (7, [14]), (48, [0, 1, 2, 3, 4, 5, 6, 7, 8, 9, 10, 11, 12, 13, 14]), (51, [0, 1, 2, 3, 4, 5, 6, 7, 8, 9, 10, 11, 12, 13]), (55, [0, 1, 2, 3])] rfl gw_wsX6_as
set_option maxRecDepth 20000 in
theorem gw_wsX6_turns : wsX6_turns.all goodWord = true := by decide +kernel
set_option maxRecDepth 20000 in
theorem ggL_law_X6_turns : GoodIn wsL_law wsX6_turns := goodIn_pc bsL bsL_e _ [(12, [7]), (4, [11]), (1, [5]), (6, [3, 4, 8, 9, 10]), (0, [2]), (6, [11]), (4, [12, 14, 15, 16]), (48, [0, 1, 2, 3, 4, 5, 6, 7, 8, 9, 10, 11, 12, 13, 14]), (51, [0, 1, 2, 3, 4, 5, 6, 7, 8, 9, 10, 11, 12, 13]), (55, [0, 1, 2, 3])] rfl gw_wsX6_turns
set_option maxRecDepth 20000 in
theorem gw_wsX6_set : wsX6_set.all goodWord = true := by decide +kernel
set_option maxRecDepth 20000 in
theorem ggL_law_X6_set : GoodIn wsL_law wsX6_set := goodIn_pc bsL bsL_e _ [(12, [19]), (4, [11]), (1, [5]), (6, [3, 8, 9, 10]), (0, [2]), (6, [11]), (4, [12, 14, 15, 16]), (12, [20, 21, 22]), (6, [5]), (12, [23]), (13, [0, 1]), (6, [6]), (13, [2, 3, 4]), (6, [7]), (48, [0, 1, 2, 3, 4, 5, 6, 7, 8, 9, 10, 11, 12, 13, 14]), (51, [0, 1, 2, 3, 4, 5, 6, 7, 8, 9, 10, 11, 12, 13]), (55, [0, 1, 2, 3])] rfl gw_wsX6_set
set_option maxRecDepth 20000 in
theorem gw_wsX6_cloth : wsX6_cloth.all goodWord = true := by decide +kernel
set_option maxRecDepth 20000 in
theorem ggL_law_X6_cloth : GoodIn wsL_law wsX6_cloth := goodIn_pc bsL bsL_e _ [(13, [14]), (1, [5]), (13, [15, 16, 17, 18]), (4, [11]), (13, [19]), (7, [20, 21]), (1, [0]), (7, [22, 9, 23]), (8, [0]), (6, [18]), (8, [1]), (13, [20, 21, 22, 23]), (2, [1]), (6, [20, 21, 22, 23]), (7, [0, 1, 2, 3, 4]), (2, [3]), (7, [5, 6, 7, 8]), (14, [0, 1, 2, 3]), (4, [21]), (2, [0]), (5, [0]), (48, [0, 1, 2, 3, 4, 5, 6, 7, 8, 9, 10, 11, 12, 13, 14]), (51, [0, 1, 2, 3, 4, 5, 6, 7, 8, 9, 10, 11, 12, 13]), (55, [0, 1, 2, 3])] rfl gw_wsX6_cloth
set_option maxRecDepth 20000 in
theorem gw_wsX6_rule : wsX6_rule.all goodWord = true := by decide +kernel
set_option maxRecDepth 20000 in
theorem ggL_law_X6_rule : GoodIn wsL_law wsX6_rule := goodIn_pc bsL bsL_e _ [(14, [23]), (4, [11]), (15, [0, 1, 2]), (0, [2]), (15, [3]), (1, [5]), (13, [15]), (15, [4, 5, 6]), (1, [0]), (15, [7]), (2, [3]), (4, [14, 15, 16]), (15, [8, 9, 10, 11]), (13, [16]), (15, [12, 13, 14, 15]), (7, [0]), (15, [16]), (8, [10, 11, 12]), (6, [17, 18, 19]), (8, [13, 14, 15]), (15, [17, 18, 19, 20]), (13, [17]), (15, [21, 22, 23]), (16, [0]), (13, [18]), (48, [0, 1, 2, 3, 4, 5, 6, 7, 8, 9, 10, 11, 12, 13, 14]), (51, [0, 1, 2, 3, 4, 5, 6, 7, 8, 9, 10, 11, 12, 13])] rfl gw_wsX6_rule
set_option maxRecDepth 20000 in
theorem gw_wsX6_deal : wsX6_deal.all goodWord = true := by decide +kernel
set_option maxRecDepth 20000 in
theorem ggL_law_X6_deal : GoodIn wsL_law wsX6_deal := goodIn_pc bsL bsL_e _ [(16, [16]), (4, [11]), (1, [5]), (4, [12]), (8, [12]), (6, [17, 18, 19]), (4, [14, 15]), (0, [2]), (4, [16]), (16, [17, 18, 19]), (1, [0]), (16, [20]), (2, [6]), (16, [21]), (4, [17, 18, 19, 20, 21, 22]), (2, [0]), (4, [23]), (5, [0, 1, 2]), (48, [0, 1, 2, 3, 4, 5, 6, 7, 8, 9, 10, 11, 12, 13, 14]), (51, [0, 1, 2, 3, 4, 5, 6, 7, 8, 9, 10, 11, 12, 13]), (55, [0, 1, 2, 3])] rfl gw_wsX6_deal
set_option maxRecDepth 20000 in
theorem gw_wsX6_seed : wsX6_seed.all goodWord = true := by decide +kernel
set_option maxRecDepth 20000 in
theorem ggL_law_X6_seed : GoodIn wsL_law wsX6_seed := goodIn_pc bsL bsL_e _ [(17, [11]), (1, [5]), (17, [12]), (48, [0, 1, 2, 3, 4, 5, 6, 7, 8, 9, 10, 11, 12, 13, 14]), (51, [0, 1, 2, 3, 4, 5, 6, 7, 8, 9, 10, 11, 12, 13])] rfl gw_wsX6_seed
set_option maxRecDepth 20000 in
theorem gw_wsX6_hours : wsX6_hours.all goodWord = true := by decide +kernel
set_option maxRecDepth 20000 in
theorem ggL_law_X6_hours : GoodIn wsL_law wsX6_hours := goodIn_pc bsL bsL_e _ [(17, [20]), (4, [11]), (1, [5]), (17, [21, 22]), (8, [12]), (6, [17, 18, 19]), (4, [14, 15]), (0, [2]), (4, [16]), (17, [23]), (18, [0, 1]), (1, [0]), (18, [2]), (2, [5]), (18, [3, 4, 5, 6]), (4, [21]), (2, [0]), (5, [0]), (7, [0]), (6, [20, 21, 22, 23]), (7, [1, 2, 3, 4]), (2, [3]), (7, [5, 6, 7, 8, 9]), (18, [7]), (6, [13, 14, 15]), (5, [1]), (6, [16]), (7, [10, 11, 12]), (2, [9]), (7, [13, 14, 15, 16, 17, 18]), (2, [2, 7]), (5, [2]), (7, [19, 20, 21, 22, 23]), (8, [0, 1, 2, 3, 4]), (0, [22]), (8, [5, 6]), (1, [17, 18]), (8, [7, 8, 9, 10, 11, 13, 14, 15, 16, 17, 18, 19]), (18, [8, 9, 10, 11, 12, 13, 14, 15, 16]), (15, [16, 5, 6, 7]), (18, [17, 18, 19, 20, 21, 22, 23]), (19, [0, 1, 2, 3, 4, 5, 6]), (2, [4]), (19, [7, 8]), (16, [18, 19, 20]), (2, [6]), (16, [21]), (48, [0, 1, 2, 3, 4, 5, 6, 7, 8, 9, 10, 11, 12, 13, 14]), (51, [0, 1, 2, 3, 4, 5, 6, 7, 8, 9, 10, 11, 12, 13]), (55, [0, 1, 2, 3]), (50, [0, 1, 2, 3, 4])] rfl gw_wsX6_hours
set_option maxRecDepth 20000 in
theorem gw_wsX6_book : wsX6_book.all goodWord = true := by decide +kernel
set_option maxRecDepth 20000 in
theorem ggL_law_X6_book : GoodIn wsL_law wsX6_book := goodIn_pc bsL bsL_e _ [(20, [13]), (1, [5]), (17, [21]), (20, [14, 15]), (4, [11]), (20, [16, 17, 18]), (1, [0]), (20, [19]), (4, [21]), (2, [0]), (5, [1]), (48, [0, 1, 2, 3, 4, 5, 6, 7, 8, 9, 10, 11, 12, 13, 14]), (51, [0, 1, 2, 3, 4, 5, 6, 7, 8, 9, 10, 11, 12, 13]), (55, [0, 1, 2, 3])] rfl gw_wsX6_book
set_option maxRecDepth 20000 in
theorem gw_wsX6_behind : wsX6_behind.all goodWord = true := by decide +kernel
set_option maxRecDepth 20000 in
theorem ggL_law_X6_behind : GoodIn wsL_law wsX6_behind := goodIn_pc bsL bsL_e _ [(21, [3]), (4, [11]), (1, [6, 5]), (17, [21]), (20, [14]), (13, [15]), (20, [15]), (4, [14, 15]), (0, [2]), (4, [16]), (21, [4, 5, 6]), (1, [0]), (21, [7]), (4, [21]), (2, [0]), (21, [8]), (2, [2, 3]), (7, [0, 9]), (2, [4, 5]), (19, [2, 1, 7]), (2, [6]), (21, [9, 10, 11]), (2, [9]), (21, [12]), (7, [14]), (21, [13, 14]), (9, [1]), (21, [15, 16, 17, 18]), (17, [23]), (18, [0, 1, 2, 3, 4, 5, 6]), (5, [0]), (6, [20, 21, 22, 23]), (7, [1, 2, 3, 4, 5, 6, 7, 8]), (18, [7]), (6, [13, 14, 15]), (5, [1]), (6, [16, 17, 18, 19]), (7, [10, 11, 12, 13, 15, 16, 17, 18]), (2, [7]), (5, [2]), (7, [19, 20, 21, 22, 23]), (8, [0, 1, 2, 3, 4]), (0, [22]), (8, [5, 6]), (1, [17, 18]), (8, [7, 8, 9, 10, 11, 12, 13, 14, 15, 16, 17, 18, 19]), (18, [8, 9, 10, 11, 12, 13, 14, 15, 16]), (15, [16, 5, 6, 7]), (18, [17, 18, 19, 20, 21, 22, 23]), (19, [0, 3, 4, 5, 6, 8]), (16, [18, 19, 20, 21]), (48, [0, 1, 2, 3, 4, 5, 6, 7, 8, 9, 10, 11, 12, 13, 14]), (51, [0, 1, 2, 3, 4, 5, 6, 7, 8, 9, 10, 11, 12, 13]), (55, [0, 1, 2, 3]), (50, [0, 1, 2, 3, 4])] rfl gw_wsX6_behind
set_option maxRecDepth 20000 in
theorem gw_wsX6_goods : wsX6_goods.all goodWord = true := by decide +kernel
set_option maxRecDepth 20000 in
theorem ggL_law_X6_goods : GoodIn wsL_law wsX6_goods := goodIn_pc bsL bsL_e _ [(22, [14]), (4, [11]), (1, [6, 5]), (6, [3, 6, 8, 9, 10]), (0, [2]), (6, [11]), (4, [12, 14, 15, 16]), (21, [4, 5, 6]), (1, [0]), (21, [7]), (4, [21]), (2, [0]), (21, [8]), (2, [2, 3]), (7, [0, 9]), (2, [4, 5]), (19, [2, 1, 7]), (2, [6]), (21, [9, 10, 11]), (2, [9]), (21, [12]), (7, [14]), (21, [13, 14]), (9, [1]), (21, [15, 16, 17, 18]), (17, [23]), (18, [0, 1, 2, 3, 4, 5, 6]), (5, [0]), (6, [20, 21, 22, 23]), (7, [1, 2, 3, 4, 5, 6, 7, 8]), (18, [7]), (6, [13, 14, 15]), (5, [1]), (6, [16, 17, 18, 19]), (7, [10, 11, 12, 13, 15, 16, 17, 18]), (2, [7]), (5, [2]), (7, [19, 20, 21, 22, 23]), (8, [0, 1, 2, 3, 4]), (0, [22]), (8, [5, 6]), (1, [17, 18]), (8, [7, 8, 9, 10, 11, 12, 13, 14, 15, 16, 17, 18, 19]), (18, [8, 9, 10, 11, 12, 13, 14, 15, 16]), (15, [16, 5, 6, 7]), (18, [17, 18, 19, 20, 21, 22, 23]), (19, [0, 3, 4, 5, 6, 8]), (16, [18, 19, 20, 21]), (48, [0, 1, 2, 3, 4, 5, 6, 7, 8, 9, 10, 11, 12, 13, 14]), (51, [0, 1, 2, 3, 4, 5, 6, 7, 8, 9, 10, 11, 12, 13]), (55, [0, 1, 2, 3]), (50, [0, 1, 2, 3, 4])] rfl gw_wsX6_goods
set_option maxRecDepth 20000 in
theorem gw_wsX6_best : wsX6_best.all goodWord = true := by decide +kernel
set_option maxRecDepth 20000 in
theorem ggL_law_X6_best : GoodIn wsL_law wsX6_best := goodIn_pc bsL bsL_e _ [(22, [22]), (4, [11]), (22, [23]), (23, [0, 1]), (0, [13]), (1, [5]), (4, [14, 15]), (0, [2]), (4, [16]), (21, [4, 5, 6]), (1, [0]), (21, [7]), (4, [21]), (2, [0]), (21, [8]), (2, [2, 3]), (7, [0, 9]), (2, [4, 5]), (19, [2, 1, 7]), (2, [6]), (21, [9, 10, 11]), (2, [9]), (21, [12]), (7, [14]), (21, [13, 14]), (9, [1]), (23, [2, 3, 4, 5]), (17, [21]), (18, [21, 22, 23]), (19, [0]), (5, [1, 0, 2]), (18, [12, 13, 14, 15, 16]), (8, [14]), (6, [18]), (8, [15]), (6, [16, 17, 19]), (15, [16, 5, 6, 7]), (18, [7]), (6, [13, 14, 15, 20, 21, 22, 23]), (7, [1, 2, 3, 4, 5, 6, 7, 8, 10, 11, 12, 13, 15, 16, 17, 18]), (2, [7]), (7, [19, 20, 21, 22, 23]), (8, [0, 1, 2, 3, 4]), (0, [22]), (8, [5, 6]), (1, [17, 18]), (8, [7, 8, 9, 10, 11, 12, 13, 16, 17, 18, 19]), (19, [3, 4, 5, 6, 8]), (16, [18, 19, 20, 21]), (48, [0, 1, 2, 3, 4, 5, 6, 7, 8, 9, 10, 11, 12, 13, 14]), (51, [0, 1, 2, 3, 4, 5, 6, 7, 8, 9, 10, 11, 12, 13]), (55, [0, 1, 2, 3]), (50, [0, 1, 2, 3, 4])] rfl gw_wsX6_best
set_option maxRecDepth 20000 in
theorem gw_wsX6_wider : wsX6_wider.all goodWord = true := by decide +kernel
set_option maxRecDepth 20000 in
theorem ggL_law_X6_wider : GoodIn wsL_law wsX6_wider := goodIn_pc bsL bsL_e _ [(23, [13]), (4, [11]), (1, [6, 5]), (17, [21]), (23, [14]), (4, [14, 15]), (0, [2]), (4, [16]), (21, [4, 5, 6]), (1, [0]), (21, [7]), (4, [21]), (2, [0]), (21, [8]), (2, [2, 3]), (7, [0, 9]), (2, [4, 5]), (19, [2, 1, 7]), (2, [6]), (21, [9, 10, 11]), (2, [9]), (21, [12]), (7, [14]), (21, [13, 14]), (9, [1]), (15, [12, 13, 14, 15, 16, 5, 6, 7]), (8, [10, 11, 12]), (6, [17, 18, 19]), (8, [13, 14, 15]), (21, [15, 16, 17, 18]), (17, [23]), (18, [0, 1, 2, 3, 4, 5, 6]), (5, [0]), (6, [20, 21, 22, 23]), (7, [1, 2, 3, 4, 5, 6, 7, 8]), (18, [7]), (6, [13, 14, 15]), (5, [1]), (6, [16]), (7, [10, 11, 12, 13, 15, 16, 17, 18]), (2, [7]), (5, [2]), (7, [19, 20, 21, 22, 23]), (8, [0, 1, 2, 3, 4]), (0, [22]), (8, [5, 6]), (1, [17, 18]), (8, [7, 8, 9, 16, 17, 18, 19]), (18, [8, 9, 10, 11, 12, 13, 14, 15, 16, 17, 18, 19, 20, 21, 22, 23]), (19, [0, 3, 4, 5, 6, 8]), (16, [18, 19, 20, 21]), (48, [0, 1, 2, 3, 4, 5, 6, 7, 8, 9, 10, 11, 12, 13, 14]), (51, [0, 1, 2, 3, 4, 5, 6, 7, 8, 9, 10, 11, 12, 13]), (55, [0, 1, 2, 3]), (50, [0, 1, 2, 3, 4])] rfl gw_wsX6_wider
set_option maxRecDepth 20000 in
theorem gw_wsX6_shaded : wsX6_shaded.all goodWord = true := by decide +kernel
set_option maxRecDepth 20000 in
theorem ggL_law_X6_shaded : GoodIn wsL_law wsX6_shaded := goodIn_pc bsL bsL_e _ [(24, [0]), (4, [11]), (1, [6, 5]), (6, [3, 5, 8, 9, 10]), (0, [2]), (6, [11]), (4, [12, 14, 15, 16]), (21, [4, 5, 6]), (1, [0]), (21, [7]), (4, [21]), (2, [0]), (21, [8]), (2, [2, 3]), (7, [0, 9]), (2, [4, 5]), (19, [2, 1, 7]), (2, [6]), (21, [9, 10, 11]), (2, [9]), (21, [12]), (7, [14]), (21, [13, 14]), (9, [1]), (17, [23]), (18, [0, 1, 2, 3, 4, 5, 6]), (5, [0]), (6, [20, 21, 22, 23]), (7, [1, 2, 3, 4, 5, 6, 7, 8]), (18, [7]), (6, [13, 14, 15]), (5, [1]), (6, [16, 17, 18, 19]), (7, [10, 11, 12, 13, 15, 16, 17, 18]), (2, [7]), (5, [2]), (7, [19, 20, 21, 22, 23]), (8, [0, 1, 2, 3, 4]), (0, [22]), (8, [5, 6]), (1, [17, 18]), (8, [7, 8, 9, 10, 11, 12, 13, 14, 15, 16, 17, 18, 19]), (18, [8, 9, 10, 11, 12, 13, 14, 15, 16]), (15, [16, 5, 6, 7]), (18, [17, 18, 19, 20]), (24, [1, 2]), (18, [21, 22, 23]), (19, [0, 3, 4, 5, 6, 8]), (16, [18, 19, 20, 21]), (48, [0, 1, 2, 3, 4, 5, 6, 7, 8, 9, 10, 11, 12, 13, 14]), (51, [0, 1, 2, 3, 4, 5, 6, 7, 8, 9, 10, 11, 12, 13]), (55, [0, 1, 2, 3]), (50, [0, 1, 2, 3, 4])] rfl gw_wsX6_shaded
set_option maxRecDepth 20000 in
theorem gw_wsX6_without : wsX6_without.all goodWord = true := by decide +kernel
set_option maxRecDepth 20000 in
theorem ggL_law_X6_without : GoodIn wsL_law wsX6_without := goodIn_pc bsL bsL_e _ [(24, [10]), (4, [11]), (1, [5]), (4, [12]), (23, [14]), (1, [6]), (6, [3, 7]), (20, [14]), (4, [14, 15]), (0, [2]), (4, [16]), (21, [4, 5, 6]), (1, [0]), (21, [7]), (4, [21]), (2, [0]), (21, [8]), (2, [2, 3]), (7, [0, 9]), (2, [4, 5]), (19, [2, 1, 7]), (2, [6]), (21, [9, 10, 11]), (2, [9]), (21, [12]), (7, [14]), (21, [13, 14]), (9, [1]), (21, [15, 16, 17, 18]), (17, [23]), (18, [0, 1, 2, 3, 4, 5, 6]), (5, [0]), (6, [20, 21, 22, 23]), (7, [1, 2, 3, 4, 5, 6, 7, 8]), (18, [7]), (6, [13, 14, 15]), (5, [1]), (6, [16, 17, 18, 19]), (7, [10, 11, 12, 13, 15, 16, 17, 18]), (2, [7]), (5, [2]), (7, [19, 20, 21, 22, 23]), (8, [0, 1, 2, 3, 4]), (0, [22]), (8, [5, 6]), (1, [17, 18]), (8, [7, 8, 9, 10, 11, 12, 13, 14, 15, 16, 17, 18, 19]), (18, [8, 9, 10, 11, 12, 13, 14, 15, 16]), (15, [16, 5, 6, 7]), (18, [17, 18, 19, 20, 21, 22, 23]), (19, [0, 3, 4, 5, 6, 8]), (16, [18, 19, 20, 21]), (48, [0, 1, 2, 3, 4, 5, 6, 7, 8, 9, 10, 11, 12, 13, 14]), (51, [0, 1, 2, 3, 4, 5, 6, 7, 8, 9, 10, 11, 12, 13]), (55, [0, 1, 2, 3]), (50, [0, 1, 2, 3, 4])] rfl gw_wsX6_without
set_option maxRecDepth 20000 in
theorem gw_wsX6_whose : wsX6_whose.all goodWord = true := by decide +kernel
set_option maxRecDepth 20000 in
theorem ggL_law_X6_whose : GoodIn wsL_law wsX6_whose := goodIn_pc bsL bsL_e _ [(24, [18]), (4, [11]), (0, [15]), (24, [19]), (22, [23]), (1, [6, 5]), (13, [18]), (24, [20, 21]), (0, [2]), (24, [22]), (4, [14, 15, 16]), (24, [23]), (25, [0, 1]), (1, [2]), (25, [2]), (2, [16]), (21, [4, 5, 6]), (1, [0]), (21, [7]), (4, [21]), (2, [0]), (21, [8]), (2, [2, 3]), (7, [0, 9]), (2, [4, 5]), (19, [2, 1, 7]), (2, [6]), (21, [9, 10, 11]), (2, [9]), (21, [12]), (7, [14]), (21, [13, 14]), (9, [1]), (21, [15, 16, 17, 18]), (17, [23]), (18, [0, 1, 2, 3, 4, 5, 6]), (5, [0]), (6, [20, 21, 22, 23]), (7, [1, 2, 3, 4, 5, 6, 7, 8]), (18, [7]), (6, [13, 14, 15]), (5, [1]), (6, [16, 17, 18, 19]), (7, [10, 11, 12, 13, 15, 16, 17, 18]), (2, [7]), (5, [2]), (7, [19, 20, 21, 22, 23]), (8, [0, 1, 2, 3, 4]), (0, [22]), (8, [5, 6]), (1, [17, 18]), (8, [7, 8, 9, 10, 11, 12, 13, 14, 15, 16, 17, 18, 19]), (18, [8, 9, 10, 11, 12, 13, 14, 15, 16]), (15, [16, 5, 6, 7]), (18, [17, 18, 19, 20, 21, 22, 23]), (19, [0, 3, 4, 5, 6, 8]), (16, [18, 19, 20, 21]), (25, [3, 4, 5, 6, 7, 8, 9, 10, 11]), (2, [17]), (25, [12, 13, 14, 15, 16, 17]), (48, [0, 1, 2, 3, 4, 5, 6, 7, 8, 9, 10, 11, 12, 13, 14]), (51, [0, 1, 2, 3, 4, 5, 6, 7, 8, 9, 10, 11, 12, 13]), (52, [0, 1, 2]), (55, [0, 1, 2, 3]), (50, [0, 1, 2, 3, 4])] rfl gw_wsX6_whose
set_option maxRecDepth 20000 in
theorem gw_wsX6_fee : wsX6_fee.all goodWord = true := by decide +kernel
set_option maxRecDepth 20000 in
theorem ggL_law_X6_fee : GoodIn wsL_law wsX6_fee := goodIn_pc bsL bsL_e _ [(26, [5]), (1, [5]), (26, [6]), (20, [14]), (1, [12]), (20, [15]), (4, [14, 15]), (0, [2]), (4, [16]), (26, [7]), (8, [3, 4]), (0, [22]), (8, [5, 6]), (1, [17, 18]), (8, [7, 8, 9]), (48, [0, 1, 2, 3, 4, 5, 6, 7, 8, 9, 10, 11, 12, 13, 14]), (51, [0, 1, 2, 3, 4, 5, 6, 7, 8, 9, 10, 11, 12, 13]), (50, [0, 1, 2, 3, 4])] rfl gw_wsX6_fee
set_option maxRecDepth 20000 in
theorem gw_wsX6_fine : wsX6_fine.all goodWord = true := by decide +kernel
set_option maxRecDepth 20000 in
theorem ggL_law_X6_fine : GoodIn wsL_law wsX6_fine := goodIn_pc bsL bsL_e _ [(26, [15]), (4, [11]), (1, [5]), (6, [3]), (26, [6]), (6, [6]), (1, [12]), (6, [5, 8, 9, 10]), (0, [2]), (6, [11]), (4, [12, 14, 15, 16]), (8, [20]), (6, [21, 22]), (1, [0]), (6, [23]), (7, [0, 1, 2, 3, 4]), (2, [3]), (7, [5, 6, 7, 8, 9]), (26, [7]), (8, [3, 4]), (0, [22]), (8, [5, 6]), (1, [17, 18]), (8, [7, 8, 9]), (48, [0, 1, 2, 3, 4, 5, 6, 7, 8, 9, 10, 11, 12, 13, 14]), (51, [0, 1, 2, 3, 4, 5, 6, 7, 8, 9, 10, 11, 12, 13]), (55, [0, 1, 2, 3]), (50, [0, 1, 2, 3, 4])] rfl gw_wsX6_fine
set_option maxRecDepth 20000 in
theorem gw_wsX6_feed : wsX6_feed.all goodWord = true := by decide +kernel
set_option maxRecDepth 20000 in
theorem ggL_law_X6_feed : GoodIn wsL_law wsX6_feed := goodIn_pc bsL bsL_e _ [(26, [23]), (27, [0]), (4, [13]), (27, [1, 2, 3]), (0, [2]), (27, [4]), (1, [13]), (48, [0, 1, 2, 3, 4, 5, 6, 7, 8, 9, 10, 11, 12, 13, 14])] rfl gw_wsX6_feed
set_option maxRecDepth 20000 in
theorem gw_wsX6_trim : wsX6_trim.all goodWord = true := by decide +kernel
set_option maxRecDepth 20000 in
theorem ggL_law_X6_trim : GoodIn wsL_law wsX6_trim := goodIn_pc bsL bsL_e _ [(27, [13, 0]), (4, [11, 14, 15]), (0, [2]), (4, [16]), (48, [0, 1, 2, 3, 4, 5, 6, 7, 8, 9, 10, 11, 12, 13, 14])] rfl gw_wsX6_trim
set_option maxRecDepth 20000 in
theorem gw_wsX6_text : wsX6_text.all goodWord = true := by decide +kernel
set_option maxRecDepth 20000 in
theorem ggL_law_X6_text : GoodIn wsL_law wsX6_text := goodIn_pc bsL bsL_e _ [(27, [21]), (1, [11]), (27, [0]), (23, [14]), (1, [5]), (27, [22]), (4, [13]), (27, [23]), (28, [0, 1, 2]), (1, [10]), (28, [3, 4, 5, 6, 7, 8, 9, 10]), (3, [7]), (8, [10]), (0, [2]), (8, [11, 12]), (6, [17, 18, 19]), (8, [13, 14, 15]), (28, [11, 12, 13, 14]), (3, [8]), (28, [15, 16, 17, 18, 19, 20, 21, 22, 23]), (29, [0, 1, 2, 3, 4, 5, 6, 7, 8, 9, 10, 11, 12, 13, 14, 15, 16, 17, 18, 19, 20, 21, 22, 23]), (30, [0, 1, 2, 3, 4, 5, 6, 7, 8, 9, 10, 11, 12, 13, 14, 15, 16, 17, 18, 19, 20, 21, 22, 23]), (31, [0, 1, 2, 3, 4, 5, 6]), (0, [22]), (31, [7, 8, 9]), (8, [6]), (31, [10, 11, 12, 13, 14, 15, 16, 17, 18, 19, 20]), (4, [15, 16]), (31, [21, 22, 23]), (32, [0, 1, 2, 3]), (1, [17]), (32, [4, 5, 6, 7, 8, 9, 10, 11, 12, 13, 14, 15, 16, 17, 18, 19, 20, 21, 22, 23]), (33, [0, 1, 2, 3, 4, 5, 6, 7, 8, 9, 10, 11, 12, 13, 14, 15, 16, 17, 18, 19, 20, 21, 22, 23]), (34, [0, 1, 2, 3, 4, 5, 6, 7, 8, 9, 10, 11, 12, 13, 14, 15, 16, 17, 18, 19, 20, 21, 22, 23]), (35, [0, 1, 2, 3, 4, 5, 6, 7, 8, 9, 10, 11, 12, 13, 14, 15, 16]), (1, [0]), (35, [17]), (21, [8]), (35, [18]), (4, [22]), (2, [7, 2]), (35, [19, 20, 21, 22, 23]), (36, [0, 1, 2]), (48, [0, 1, 2, 3, 4, 5, 6, 7, 8, 9, 10, 11, 12, 13, 14]), (51, [0, 1, 2, 3, 4, 5, 6, 7, 8, 9, 10, 11, 12, 13]), (54, [0, 1, 2, 3, 4, 5, 6, 7]), (50, [0, 1, 2, 3, 4])] rfl gw_wsX6_text
set_option maxRecDepth 20000 in
theorem gw_wsX6_textTold : wsX6_textTold.all goodWord = true := by decide +kernel
set_option maxRecDepth 20000 in
theorem ggL_law_X6_textTold : GoodIn wsL_law wsX6_textTold := goodIn_pc bsL bsL_e _ [(39, [11]), (1, [5]), (27, [22]), (4, [11]), (1, [12]), (39, [12, 13]), (4, [14, 15]), (0, [2]), (4, [16]), (48, [0, 1, 2, 3, 4, 5, 6, 7, 8, 9, 10, 11, 12, 13, 14]), (51, [0, 1, 2, 3, 4, 5, 6, 7, 8, 9, 10, 11, 12, 13]), (50, [0, 1, 2, 3, 4])] rfl gw_wsX6_textTold
set_option maxRecDepth 20000 in
theorem gw_wsX6_why : wsX6_why.all goodWord = true := by decide +kernel
set_option maxRecDepth 20000 in
theorem ggL_law_X6_why : GoodIn wsL_law wsX6_why := goodIn_pc bsL bsL_e _ [(40, [1]), (1, [5]), (26, [6]), (4, [11, 14, 15]), (0, [2]), (4, [16]), (48, [0, 1, 2, 3, 4, 5, 6, 7, 8, 9, 10, 11, 12, 13, 14]), (51, [0, 1, 2, 3, 4, 5, 6, 7, 8, 9, 10, 11, 12, 13])] rfl gw_wsX6_why
set_option maxRecDepth 20000 in
theorem gw_wsX6_sheet : wsX6_sheet.all goodWord = true := by decide +kernel
set_option maxRecDepth 20000 in
theorem ggL_law_X6_sheet : GoodIn wsL_law wsX6_sheet := goodIn_pc bsL bsL_e _ [(40, [10]), (4, [11]), (0, [15]), (40, [11]), (24, [20, 21]), (0, [2]), (24, [22]), (4, [14, 15, 16]), (40, [12, 13, 14]), (1, [2]), (40, [15]), (2, [16]), (25, [17]), (2, [17]), (8, [10, 11, 12]), (6, [17, 18, 19]), (8, [13, 14, 15]), (48, [0, 1, 2, 3, 4, 5, 6, 7, 8, 9, 10, 11, 12, 13, 14]), (52, [0, 1, 2])] rfl gw_wsX6_sheet
set_option maxRecDepth 20000 in
theorem gw_wsX6_mark : wsX6_mark.all goodWord = true := by decide +kernel
set_option maxRecDepth 20000 in
theorem ggL_law_X6_mark : GoodIn wsL_law wsX6_mark := goodIn_pc bsL bsL_e _ [(41, [1]), (4, [11]), (0, [15]), (24, [19]), (41, [2, 3]), (23, [14]), (11, [15]), (41, [4, 5, 6]), (24, [20, 21]), (0, [2]), (24, [22]), (4, [14, 15, 16]), (24, [23]), (25, [0, 1]), (1, [2]), (25, [2]), (2, [16]), (41, [7]), (25, [14, 15, 16, 17]), (48, [0, 1, 2, 3, 4, 5, 6, 7, 8, 9, 10, 11, 12, 13, 14]), (52, [0, 1, 2])] rfl gw_wsX6_mark
set_option maxRecDepth 20000 in
theorem gw_wsX6_pour : wsX6_pour.all goodWord = true := by decide +kernel
set_option maxRecDepth 20000 in
theorem ggL_law_X6_pour : GoodIn wsL_law wsX6_pour := goodIn_pc bsL bsL_e _ [(41, [18]), (4, [11]), (0, [15]), (24, [19]), (1, [5]), (4, [12]), (41, [4]), (6, [3, 6]), (24, [20, 21]), (0, [2]), (24, [22]), (4, [14, 15, 16]), (24, [23]), (25, [0, 1]), (1, [2]), (25, [2]), (2, [16]), (41, [19]), (25, [9, 10, 11]), (2, [17]), (25, [12, 13, 14, 15, 16, 17]), (41, [20]), (8, [10, 11, 12]), (6, [17, 18, 19]), (8, [13, 14, 15]), (48, [0, 1, 2, 3, 4, 5, 6, 7, 8, 9, 10, 11, 12, 13, 14]), (51, [0, 1, 2, 3, 4, 5, 6, 7, 8, 9, 10, 11, 12, 13]), (52, [0, 1, 2]), (55, [0, 1, 2, 3])] rfl gw_wsX6_pour
set_option maxRecDepth 20000 in
theorem gw_wsX6_reads : wsX6_reads.all goodWord = true := by decide +kernel
set_option maxRecDepth 20000 in
theorem ggL_law_X6_reads : GoodIn wsL_law wsX6_reads := goodIn_pc bsL bsL_e _ [(42, [4]), (4, [11]), (0, [15]), (24, [19]), (42, [5]), (41, [4]), (1, [5]), (6, [3]), (23, [14]), (24, [20, 21]), (0, [2]), (24, [22]), (4, [14, 15, 16]), (24, [23]), (25, [0, 1]), (1, [2]), (25, [2]), (2, [16]), (41, [19]), (25, [9, 10, 11]), (2, [17]), (25, [12, 13, 14, 15, 16, 17]), (6, [8, 9, 10, 11]), (4, [12]), (6, [12, 13, 14]), (1, [0]), (6, [15]), (5, [1, 0]), (6, [16, 17, 18, 19, 20, 21, 22, 23]), (7, [0, 1, 2, 3, 4]), (2, [3]), (7, [5, 6, 7, 8, 9, 10, 11, 12]), (2, [9]), (7, [13, 14, 15, 16, 17, 18]), (2, [2, 7]), (5, [2]), (7, [19, 20, 21, 22, 23]), (8, [0, 1, 2, 3, 4]), (0, [22]), (8, [5, 6]), (1, [17, 18]), (8, [7, 8, 9, 10, 11, 12, 13, 14, 15, 16, 17, 18, 19]), (48, [0, 1, 2, 3, 4, 5, 6, 7, 8, 9, 10, 11, 12, 13, 14]), (52, [0, 1, 2]), (51, [0, 1, 2, 3, 4, 5, 6, 7, 8, 9, 10, 11, 12, 13]), (55, [0, 1, 2, 3]), (50, [0, 1, 2, 3, 4])] rfl gw_wsX6_reads
set_option maxRecDepth 20000 in
theorem gw_wsX6_copy : wsX6_copy.all goodWord = true := by decide +kernel
set_option maxRecDepth 20000 in
theorem ggL_law_X6_copy : GoodIn wsL_law wsX6_copy := goodIn_pc bsL bsL_e _ [(42, [13]), (4, [11]), (0, [15]), (24, [19]), (41, [3]), (11, [15]), (41, [2, 4]), (42, [14]), (36, [0, 1, 2]), (24, [20, 21]), (0, [2]), (24, [22]), (4, [14, 15, 16]), (24, [23]), (25, [0, 1]), (1, [2]), (25, [2]), (2, [16]), (42, [15, 16, 17, 18]), (25, [17]), (48, [0, 1, 2, 3, 4, 5, 6, 7, 8, 9, 10, 11, 12, 13, 14]), (52, [0, 1, 2])] rfl gw_wsX6_copy
set_option maxRecDepth 20000 in
theorem gw_wsX6_lay : wsX6_lay.all goodWord = true := by decide +kernel
set_option maxRecDepth 20000 in
theorem ggL_law_X6_lay : GoodIn wsL_law wsX6_lay := goodIn_pc bsL bsL_e _ [(43, [2]), (4, [11]), (0, [17]), (43, [3, 4]), (1, [5]), (6, [3]), (0, [15]), (24, [19]), (43, [5, 6, 7, 8]), (0, [2]), (43, [9]), (4, [14, 15, 16]), (6, [8, 9, 10, 11]), (4, [12]), (43, [10]), (21, [10, 11]), (2, [9]), (21, [12]), (7, [14]), (21, [13, 14]), (9, [1]), (24, [20, 21, 22, 23]), (25, [0, 1]), (1, [2]), (25, [2]), (2, [16]), (43, [11, 12, 13, 14]), (25, [17]), (2, [17]), (43, [15]), (36, [0, 1, 2]), (48, [0, 1, 2, 3, 4, 5, 6, 7, 8, 9, 10, 11, 12, 13, 14]), (53, [0, 1, 2, 3]), (51, [0, 1, 2, 3, 4, 5, 6, 7, 8, 9, 10, 11, 12, 13]), (55, [0, 1, 2, 3]), (52, [0, 1, 2])] rfl gw_wsX6_lay
set_option maxRecDepth 20000 in
theorem gw_wsX6_ask : wsX6_ask.all goodWord = true := by decide +kernel
set_option maxRecDepth 20000 in
theorem ggL_law_X6_ask : GoodIn wsL_law wsX6_ask := goodIn_pc bsL bsL_e _ [(44, [3]), (4, [11]), (0, [17]), (43, [4]), (11, [15]), (43, [7, 8]), (0, [2]), (43, [9]), (4, [14, 15, 16]), (44, [4, 5, 6]), (1, [4]), (44, [7]), (2, [21]), (44, [8, 9]), (11, [16, 17, 18]), (2, [9]), (11, [19]), (7, [14]), (8, [21, 22, 23]), (9, [0, 1]), (48, [0, 1, 2, 3, 4, 5, 6, 7, 8, 9, 10, 11, 12, 13, 14]), (53, [0, 1, 2, 3]), (55, [0, 1, 2, 3])] rfl gw_wsX6_ask
set_option maxRecDepth 20000 in
theorem gw_wsX6_item : wsX6_item.all goodWord = true := by decide +kernel
set_option maxRecDepth 20000 in
theorem ggL_law_X6_item : GoodIn wsL_law wsX6_item := goodIn_pc bsL bsL_e _ [(44, [17]), (4, [11]), (0, [17]), (43, [5]), (41, [2, 4]), (11, [15]), (43, [7, 8]), (0, [2]), (43, [9]), (4, [14, 15, 16]), (44, [4, 5, 6]), (1, [4]), (44, [7]), (2, [21]), (44, [8, 9]), (41, [7]), (25, [14, 15]), (1, [2]), (25, [16, 17]), (41, [19]), (25, [9, 10, 11]), (2, [17]), (25, [12, 13]), (48, [0, 1, 2, 3, 4, 5, 6, 7, 8, 9, 10, 11, 12, 13, 14]), (53, [0, 1, 2, 3]), (52, [0, 1, 2])] rfl gw_wsX6_item
set_option maxRecDepth 20000 in
theorem gw_wsX6_rest : wsX6_rest.all goodWord = true := by decide +kernel
set_option maxRecDepth 20000 in
theorem ggL_law_X6_rest : GoodIn wsL_law wsX6_rest := goodIn_pc bsL bsL_e _ [(45, [1]), (4, [11]), (0, [17]), (45, [2]), (43, [6, 7, 8]), (0, [2]), (43, [9]), (4, [14, 15, 16]), (44, [4, 5, 6]), (1, [4]), (44, [7]), (2, [21]), (44, [8, 9]), (48, [0, 1, 2, 3, 4, 5, 6, 7, 8, 9, 10, 11, 12, 13, 14]), (53, [0, 1, 2, 3])] rfl gw_wsX6_rest
set_option maxRecDepth 20000 in
theorem gw_wsX6_tell : wsX6_tell.all goodWord = true := by decide +kernel
set_option maxRecDepth 20000 in
theorem ggL_law_X6_tell : GoodIn wsL_law wsX6_tell := goodIn_pc bsL bsL_e _ [(45, [11, 12]), (4, [13]), (0, [19]), (48, [0, 1, 2, 3, 4, 5, 6, 7, 8, 9, 10, 11, 12, 13, 14])] rfl gw_wsX6_tell
set_option maxRecDepth 20000 in
theorem gw_wsX6_check : wsX6_check.all goodWord = true := by decide +kernel
set_option maxRecDepth 20000 in
theorem ggL_law_X6_check : GoodIn wsL_law wsX6_check := goodIn_pc bsL bsL_e _ [(45, [21, 12]), (4, [11]), (45, [22, 2]), (1, [6, 7]), (17, [22]), (8, [12]), (6, [17, 18, 19]), (0, [19]), (17, [21]), (13, [15]), (4, [14, 15]), (0, [2]), (4, [16]), (21, [4, 5, 6]), (1, [0]), (21, [7]), (4, [21]), (2, [0]), (21, [8]), (2, [2, 3]), (7, [0, 9]), (2, [4, 5]), (19, [2, 1, 7]), (2, [6]), (21, [9, 10, 11]), (2, [9]), (21, [12]), (7, [14]), (21, [13, 14]), (9, [1]), (17, [23]), (18, [0, 1, 2, 3, 4, 5, 6]), (5, [0]), (6, [20, 21, 22, 23]), (7, [1, 2, 3, 4, 5, 6, 7, 8]), (18, [7]), (6, [13, 14, 15]), (5, [1]), (6, [16]), (7, [10, 11, 12, 13, 15, 16, 17, 18]), (2, [7]), (5, [2]), (7, [19, 20, 21, 22, 23]), (8, [0, 1, 2, 3, 4]), (0, [22]), (8, [5, 6]), (1, [17, 18]), (8, [7, 8, 9, 10, 11, 13, 14, 15, 16, 17, 18, 19]), (18, [8, 9, 10, 11, 12, 13, 14, 15, 16]), (15, [16, 5, 6, 7]), (18, [17, 18, 19, 20, 21, 22, 23]), (19, [0, 3, 4, 5, 6, 8]), (16, [18, 19, 20, 21]), (48, [0, 1, 2, 3, 4, 5, 6, 7, 8, 9, 10, 11, 12, 13, 14]), (51, [0, 1, 2, 3, 4, 5, 6, 7, 8, 9, 10, 11, 12, 13]), (55, [0, 1, 2, 3]), (50, [0, 1, 2, 3, 4])] rfl gw_wsX6_check
set_option maxRecDepth 20000 in
theorem gw_wsX6_keep : wsX6_keep.all goodWord = true := by decide +kernel
set_option maxRecDepth 20000 in
theorem ggL_law_X6_keep : GoodIn wsL_law wsX6_keep := goodIn_pc bsL bsL_e _ [(46, [12]), (1, [7, 5]), (45, [22]), (4, [12]), (21, [4, 5, 6]), (1, [0]), (21, [7]), (4, [21]), (2, [0]), (21, [8]), (2, [2, 3]), (7, [0, 9]), (2, [4, 5]), (19, [2, 1, 7]), (2, [6]), (21, [9, 10, 11]), (2, [9]), (21, [12]), (7, [14]), (21, [13, 14]), (9, [1]), (48, [0, 1, 2, 3, 4, 5, 6, 7, 8, 9, 10, 11, 12, 13, 14]), (51, [0, 1, 2, 3, 4, 5, 6, 7, 8, 9, 10, 11, 12, 13]), (55, [0, 1, 2, 3])] rfl gw_wsX6_keep
set_option maxRecDepth 20000 in
theorem gw_wsX6_back : wsX6_back.all goodWord = true := by decide +kernel
set_option maxRecDepth 20000 in
theorem ggL_law_X6_back : GoodIn wsL_law wsX6_back := goodIn_pc bsL bsL_e _ [(46, [20]), (45, [22, 2]), (1, [5, 7]), (4, [12]), (21, [4, 5, 6]), (1, [0]), (21, [7]), (4, [21]), (2, [0]), (21, [8]), (2, [2, 3]), (7, [0, 9]), (2, [4, 5]), (19, [2, 1, 7]), (2, [6]), (21, [9, 10, 11]), (2, [9]), (21, [12]), (7, [14]), (21, [13, 14]), (9, [1]), (48, [0, 1, 2, 3, 4, 5, 6, 7, 8, 9, 10, 11, 12, 13, 14]), (51, [0, 1, 2, 3, 4, 5, 6, 7, 8, 9, 10, 11, 12, 13]), (55, [0, 1, 2, 3])] rfl gw_wsX6_back
set_option maxRecDepth 20000 in
theorem gw_wsX6_count : wsX6_count.all goodWord = true := by decide +kernel
set_option maxRecDepth 20000 in
theorem ggL_law_X6_count : GoodIn wsL_law wsX6_count := goodIn_pc bsL bsL_e _ [(47, [4]), (1, [5]), (4, [12]), (17, [22]), (27, [22]), (45, [12]), (27, [0]), (17, [12]), (4, [11]), (14, [0, 1, 2]), (1, [0]), (14, [3]), (4, [21]), (2, [0]), (5, [0]), (6, [20, 21, 22, 23]), (7, [0, 1, 2, 3, 4]), (2, [3]), (7, [5, 6, 7, 8, 9]), (47, [5, 6, 7, 8, 9, 10, 11]), (48, [0, 1, 2, 3, 4, 5, 6, 7, 8, 9, 10, 11, 12, 13, 14]), (51, [0, 1, 2, 3, 4, 5, 6, 7, 8, 9, 10, 11, 12, 13]), (55, [0, 1, 2, 3])] rfl gw_wsX6_count
set_option maxRecDepth 20000 in
theorem gL_law_X6_init : GoodIn wsL_law (wsX6_init) := ggL_law_X6_init
set_option maxRecDepth 20000 in
theorem gL_law_X6_stall : GoodIn wsL_law (wsV RL 13 RX6 yX6_stall wsX6_stall) := goodIn_app (goodIn_pc bsL bsL_e _ [(4, [7, 8, 9]), (0, [2])] rfl (by decide +kernel)) ggL_law_X6_stall
set_option maxRecDepth 20000 in
theorem gL_law_X6_told : GoodIn wsL_law (wsV RL 18 RX6 yX6_told wsX6_told) := goodIn_app (goodIn_pc bsL bsL_e _ [(5, [23]), (6, [0, 1]), (0, [2])] rfl (by decide +kernel)) ggL_law_X6_told
set_option maxRecDepth 20000 in
theorem gL_law_X6_as : GoodIn wsL_law (wsV RL 23 RX6 yX6_as wsX6_as) := goodIn_app (goodIn_pc bsL bsL_e _ [(11, [11, 12, 13]), (0, [2])] rfl (by decide +kernel)) ggL_law_X6_as
set_option maxRecDepth 20000 in
theorem gL_law_X6_turns : GoodIn wsL_law (wsV RL 27 RX6 yX6_turns wsX6_turns) := goodIn_app (goodIn_pc bsL bsL_e _ [(12, [4, 5, 6]), (0, [2])] rfl (by decide +kernel)) ggL_law_X6_turns
set_option maxRecDepth 20000 in
theorem gL_law_X6_set : GoodIn wsL_law (wsV RL 31 RX6 yX6_set wsX6_set) := goodIn_app (goodIn_pc bsL bsL_e _ [(12, [16, 17, 18]), (0, [2])] rfl (by decide +kernel)) ggL_law_X6_set
set_option maxRecDepth 20000 in
theorem gL_law_X6_cloth : GoodIn wsL_law (wsV RL 35 RX6 yX6_cloth wsX6_cloth) := goodIn_app (goodIn_pc bsL bsL_e _ [(13, [11, 12, 13]), (0, [2])] rfl (by decide +kernel)) ggL_law_X6_cloth
set_option maxRecDepth 20000 in
theorem gL_law_X6_rule : GoodIn wsL_law (wsV RL 40 RX6 yX6_rule wsX6_rule) := goodIn_app (goodIn_pc bsL bsL_e _ [(14, [20, 21, 22]), (0, [2])] rfl (by decide +kernel)) ggL_law_X6_rule
set_option maxRecDepth 20000 in
theorem gL_law_X6_deal : GoodIn wsL_law (wsV RL 44 RX6 yX6_deal wsX6_deal) := goodIn_app (goodIn_pc bsL bsL_e _ [(16, [13, 14, 15]), (0, [2])] rfl (by decide +kernel)) ggL_law_X6_deal
set_option maxRecDepth 20000 in
theorem gL_law_X6_seed : GoodIn wsL_law (wsV RL 48 RX6 yX6_seed wsX6_seed) := goodIn_app (goodIn_pc bsL bsL_e _ [(17, [8, 9, 10]), (0, [2])] rfl (by decide +kernel)) ggL_law_X6_seed
set_option maxRecDepth 20000 in
theorem gL_law_X6_hours : GoodIn wsL_law (wsV RL 52 RX6 yX6_hours wsX6_hours) := goodIn_app (goodIn_pc bsL bsL_e _ [(17, [17, 18, 19]), (0, [2])] rfl (by decide +kernel)) ggL_law_X6_hours
set_option maxRecDepth 20000 in
theorem gL_law_X6_book : GoodIn wsL_law (wsV RL 56 RX6 yX6_book wsX6_book) := goodIn_app (goodIn_pc bsL bsL_e _ [(20, [10, 11, 12]), (0, [2])] rfl (by decide +kernel)) ggL_law_X6_book
set_option maxRecDepth 20000 in
theorem gL_law_X6_behind : GoodIn wsL_law (wsV RL 60 RX6 yX6_behind wsX6_behind) := goodIn_app (goodIn_pc bsL bsL_e _ [(21, [0, 1, 2]), (0, [2])] rfl (by decide +kernel)) ggL_law_X6_behind
set_option maxRecDepth 20000 in
theorem gL_law_X6_goods : GoodIn wsL_law (wsV RL 64 RX6 yX6_goods wsX6_goods) := goodIn_app (goodIn_pc bsL bsL_e _ [(22, [11, 12, 13]), (0, [2])] rfl (by decide +kernel)) ggL_law_X6_goods
set_option maxRecDepth 20000 in
theorem gL_law_X6_best : GoodIn wsL_law (wsV RL 68 RX6 yX6_best wsX6_best) := goodIn_app (goodIn_pc bsL bsL_e _ [(22, [19, 20, 21]), (0, [2])] rfl (by decide +kernel)) ggL_law_X6_best
set_option maxRecDepth 20000 in
theorem gL_law_X6_wider : GoodIn wsL_law (wsV RL 72 RX6 yX6_wider wsX6_wider) := goodIn_app (goodIn_pc bsL bsL_e _ [(23, [10, 11, 12]), (0, [2])] rfl (by decide +kernel)) ggL_law_X6_wider
set_option maxRecDepth 20000 in
theorem gL_law_X6_shaded : GoodIn wsL_law (wsV RL 76 RX6 yX6_shaded wsX6_shaded) := goodIn_app (goodIn_pc bsL bsL_e _ [(23, [21, 22, 23]), (0, [2])] rfl (by decide +kernel)) ggL_law_X6_shaded
set_option maxRecDepth 20000 in
theorem gL_law_X6_without : GoodIn wsL_law (wsV RL 80 RX6 yX6_without wsX6_without) := goodIn_app (goodIn_pc bsL bsL_e _ [(24, [7, 8, 9]), (0, [2])] rfl (by decide +kernel)) ggL_law_X6_without
set_option maxRecDepth 20000 in
theorem gL_law_X6_whose : GoodIn wsL_law (wsV RL 84 RX6 yX6_whose wsX6_whose) := goodIn_app (goodIn_pc bsL bsL_e _ [(24, [15, 16, 17]), (0, [2])] rfl (by decide +kernel)) ggL_law_X6_whose
set_option maxRecDepth 20000 in
theorem gL_law_X6_fee : GoodIn wsL_law (wsV RL 88 RX6 yX6_fee wsX6_fee) := goodIn_app (goodIn_pc bsL bsL_e _ [(26, [2, 3, 4]), (0, [2])] rfl (by decide +kernel)) ggL_law_X6_fee
set_option maxRecDepth 20000 in
theorem gL_law_X6_fine : GoodIn wsL_law (wsV RL 93 RX6 yX6_fine wsX6_fine) := goodIn_app (goodIn_pc bsL bsL_e _ [(26, [12, 13, 14]), (0, [2])] rfl (by decide +kernel)) ggL_law_X6_fine
set_option maxRecDepth 20000 in
theorem gL_law_X6_feed : GoodIn wsL_law (wsV RL 97 RX6 yX6_feed wsX6_feed) := goodIn_app (goodIn_pc bsL bsL_e _ [(26, [20, 21, 22]), (0, [2])] rfl (by decide +kernel)) ggL_law_X6_feed
set_option maxRecDepth 20000 in
theorem gL_law_X6_trim : GoodIn wsL_law (wsV RL 101 RX6 yX6_trim wsX6_trim) := goodIn_app (goodIn_pc bsL bsL_e _ [(27, [10, 11, 12]), (0, [2])] rfl (by decide +kernel)) ggL_law_X6_trim
set_option maxRecDepth 20000 in
theorem gL_law_X6_text : GoodIn wsL_law (wsV RL 105 RX6 yX6_text wsX6_text) := goodIn_app (goodIn_pc bsL bsL_e _ [(27, [18, 19, 20]), (0, [2])] rfl (by decide +kernel)) ggL_law_X6_text
set_option maxRecDepth 20000 in
theorem gL_law_X6_textTold : GoodIn wsL_law (wsV RL 109 RX6 yX6_textTold wsX6_textTold) := goodIn_app (goodIn_pc bsL bsL_e _ [(39, [8, 9, 10]), (0, [2])] rfl (by decide +kernel)) ggL_law_X6_textTold
set_option maxRecDepth 20000 in
theorem gL_law_X6_why : GoodIn wsL_law (wsV RL 113 RX6 yX6_why wsX6_why) := goodIn_app (goodIn_pc bsL bsL_e _ [(39, [22, 23]), (40, [0]), (0, [2])] rfl (by decide +kernel)) ggL_law_X6_why
set_option maxRecDepth 20000 in
theorem gL_law_X6_sheet : GoodIn wsL_law (wsV RL 117 RX6 yX6_sheet wsX6_sheet) := goodIn_app (goodIn_pc bsL bsL_e _ [(40, [7, 8, 9]), (0, [2])] rfl (by decide +kernel)) ggL_law_X6_sheet
set_option maxRecDepth 20000 in
theorem gL_law_X6_mark : GoodIn wsL_law (wsV RL 121 RX6 yX6_mark wsX6_mark) := goodIn_app (goodIn_pc bsL bsL_e _ [(40, [22, 23]), (41, [0]), (0, [2])] rfl (by decide +kernel)) ggL_law_X6_mark
set_option maxRecDepth 20000 in
theorem gL_law_X6_pour : GoodIn wsL_law (wsV RL 125 RX6 yX6_pour wsX6_pour) := goodIn_app (goodIn_pc bsL bsL_e _ [(41, [15, 16, 17]), (0, [2])] rfl (by decide +kernel)) ggL_law_X6_pour
set_option maxRecDepth 20000 in
theorem gL_law_X6_reads : GoodIn wsL_law (wsV RL 129 RX6 yX6_reads wsX6_reads) := goodIn_app (goodIn_pc bsL bsL_e _ [(42, [1, 2, 3]), (0, [2])] rfl (by decide +kernel)) ggL_law_X6_reads
set_option maxRecDepth 20000 in
theorem gL_law_X6_copy : GoodIn wsL_law (wsV RL 133 RX6 yX6_copy wsX6_copy) := goodIn_app (goodIn_pc bsL bsL_e _ [(42, [10, 11, 12]), (0, [2])] rfl (by decide +kernel)) ggL_law_X6_copy
set_option maxRecDepth 20000 in
theorem gL_law_X6_lay : GoodIn wsL_law (wsV RL 138 RX6 yX6_lay wsX6_lay) := goodIn_app (goodIn_pc bsL bsL_e _ [(42, [23]), (43, [0, 1]), (0, [2])] rfl (by decide +kernel)) ggL_law_X6_lay
set_option maxRecDepth 20000 in
theorem gL_law_X6_ask : GoodIn wsL_law (wsV RL 142 RX6 yX6_ask wsX6_ask) := goodIn_app (goodIn_pc bsL bsL_e _ [(44, [0, 1, 2]), (0, [2])] rfl (by decide +kernel)) ggL_law_X6_ask
set_option maxRecDepth 20000 in
theorem gL_law_X6_item : GoodIn wsL_law (wsV RL 146 RX6 yX6_item wsX6_item) := goodIn_app (goodIn_pc bsL bsL_e _ [(44, [14, 15, 16]), (0, [2])] rfl (by decide +kernel)) ggL_law_X6_item
set_option maxRecDepth 20000 in
theorem gL_law_X6_rest : GoodIn wsL_law (wsV RL 150 RX6 yX6_rest wsX6_rest) := goodIn_app (goodIn_pc bsL bsL_e _ [(44, [22, 23]), (45, [0]), (0, [2])] rfl (by decide +kernel)) ggL_law_X6_rest
set_option maxRecDepth 20000 in
theorem gL_law_X6_tell : GoodIn wsL_law (wsV RL 154 RX6 yX6_tell wsX6_tell) := goodIn_app (goodIn_pc bsL bsL_e _ [(45, [8, 9, 10]), (0, [2])] rfl (by decide +kernel)) ggL_law_X6_tell
set_option maxRecDepth 20000 in
theorem gL_law_X6_check : GoodIn wsL_law (wsV RL 158 RX6 yX6_check wsX6_check) := goodIn_app (goodIn_pc bsL bsL_e _ [(45, [18, 19, 20]), (0, [2])] rfl (by decide +kernel)) ggL_law_X6_check
set_option maxRecDepth 20000 in
theorem gL_law_X6_keep : GoodIn wsL_law (wsV RL 162 RX6 yX6_keep wsX6_keep) := goodIn_app (goodIn_pc bsL bsL_e _ [(46, [9, 10, 11]), (0, [2])] rfl (by decide +kernel)) ggL_law_X6_keep
set_option maxRecDepth 20000 in
theorem gL_law_X6_back : GoodIn wsL_law (wsV RL 166 RX6 yX6_back wsX6_back) := goodIn_app (goodIn_pc bsL bsL_e _ [(46, [17, 18, 19]), (0, [2])] rfl (by decide +kernel)) ggL_law_X6_back
set_option maxRecDepth 20000 in
theorem gL_law_X6_count : GoodIn wsL_law (wsV RL 170 RX6 yX6_count wsX6_count) := goodIn_app (goodIn_pc bsL bsL_e _ [(47, [1, 2, 3]), (0, [2])] rfl (by decide +kernel)) ggL_law_X6_count
