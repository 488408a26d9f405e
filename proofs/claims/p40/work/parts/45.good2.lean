set_option maxRecDepth 20000 in
theorem gw_wsX7_init : wsX7_init.all goodWord = true := by decide +kernel
set_option maxRecDepth 20000 in
theorem ggL_law_X7_init : GoodIn wsL_law wsX7_init := goodIn_pc bsL bsL_e _ [(3, [11, 12]), (0, [10, 11, 18]), (3, [13, 14, 15, 16, 17, 18, 19, 20, 21, 22, 23]), (4, [0, 1, 2, 3, 4, 5, 6]), (49, [0, 1, 2, 3, 4, 5, 6, 7, 8, 9, 10, 11, 12, 13, 14, 15, 16, 17, 18, 19, 20, 21, 22, 23, 24, 25, 26, 27, 28, 29, 30])] rfl gw_wsX7_init
set_option maxRecDepth 20000 in
theorem gw_wsX7_stall : wsX7_stall.all goodWord = true := by decide +kernel
set_option maxRecDepth 20000 in
theorem ggL_law_X7_stall : GoodIn wsL_law wsX7_stall := goodIn_pc bsL bsL_e _ [(5, [6, 7, 8, 9, 10]), (3, [13]), (5, [11, 12, 13]), (0, [5]), (5, [14, 15, 16, 17, 18, 19, 20, 21, 22]), (49, [0, 1, 2, 3, 4, 5, 6, 7, 8, 9, 10, 11, 12, 13, 14, 15, 16, 17, 18, 19, 20, 21, 22, 23, 24, 25, 26, 27, 28, 29, 30])] rfl gw_wsX7_stall
set_option maxRecDepth 20000 in
theorem gw_wsX7_told : wsX7_told.all goodWord = true := by decide +kernel
set_option maxRecDepth 20000 in
theorem ggL_law_X7_told : GoodIn wsL_law wsX7_told := goodIn_pc bsL bsL_e _ [(9, [5]), (5, [10]), (9, [6, 7, 8]), (0, [5]), (9, [9]), (3, [13]), (5, [12, 13, 14]), (9, [10, 11, 12, 13, 14, 15, 16, 17, 18, 19, 20, 21, 22, 23]), (10, [0, 1, 2, 3, 4, 5]), (4, [2]), (10, [6, 7, 8, 9, 10, 11, 12, 13, 14, 15, 16, 17, 18, 19, 20, 21, 22, 23]), (11, [0]), (4, [3]), (11, [1, 2, 3, 4, 5, 6, 7, 8, 9, 10]), (49, [0, 1, 2, 3, 4, 5, 6, 7, 8, 9, 10, 11, 12, 13, 14, 15, 16, 17, 18, 19, 20, 21, 22, 23, 24, 25, 26, 27, 28, 29, 30])] rfl gw_wsX7_told
set_option maxRecDepth 20000 in
theorem gw_wsX7_as : wsX7_as.all goodWord = true := by decide +kernel
set_option maxRecDepth 20000 in
theorem ggL_law_X7_as : GoodIn wsL_law wsX7_as := goodIn_pc bsL bsL_e _ [(11, [23]), (5, [7, 10]), (12, [0]), (9, [6, 7, 8]), (0, [5]), (9, [9]), (3, [13]), (5, [12, 13, 14]), (9, [10, 11, 12, 13]), (12, [1, 2, 3]), (49, [0, 1, 2, 3, 4, 5, 6, 7, 8, 9, 10, 11, 12, 13, 14, 15, 16, 17, 18, 19, 20, 21, 22, 23, 24, 25, 26, 27, 28, 29, 30])] rfl gw_wsX7_as
set_option maxRecDepth 20000 in
theorem gw_wsX7_turns : wsX7_turns.all goodWord = true := by decide +kernel
set_option maxRecDepth 20000 in
theorem ggL_law_X7_turns : GoodIn wsL_law wsX7_turns := goodIn_pc bsL bsL_e _ [(12, [11]), (5, [7, 10]), (9, [6, 7, 8]), (0, [5]), (9, [9]), (3, [13]), (5, [12, 13, 14]), (12, [12, 13, 14, 15]), (49, [0, 1, 2, 3, 4, 5, 6, 7, 8, 9, 10, 11, 12, 13, 14, 15, 16, 17, 18, 19, 20, 21, 22, 23, 24, 25, 26, 27, 28, 29, 30])] rfl gw_wsX7_turns
set_option maxRecDepth 20000 in
theorem gw_wsX7_set : wsX7_set.all goodWord = true := by decide +kernel
set_option maxRecDepth 20000 in
theorem ggL_law_X7_set : GoodIn wsL_law wsX7_set := goodIn_pc bsL bsL_e _ [(13, [8, 9]), (5, [8]), (13, [10]), (5, [9, 10]), (9, [6, 7, 8]), (0, [5]), (9, [9]), (3, [13]), (5, [12, 13, 14]), (12, [12, 13, 14, 15]), (49, [0, 1, 2, 3, 4, 5, 6, 7, 8, 9, 10, 11, 12, 13, 14, 15, 16, 17, 18, 19, 20, 21, 22, 23, 24, 25, 26, 27, 28, 29, 30])] rfl gw_wsX7_set
set_option maxRecDepth 20000 in
theorem gw_wsX7_cloth : wsX7_cloth.all goodWord = true := by decide +kernel
set_option maxRecDepth 20000 in
theorem ggL_law_X7_cloth : GoodIn wsL_law wsX7_cloth := goodIn_pc bsL bsL_e _ [(14, [7]), (3, [13]), (5, [10]), (10, [14, 15, 16]), (0, [5]), (10, [17, 18, 19, 20]), (14, [8, 9, 10, 11]), (9, [22, 23]), (10, [0, 1]), (14, [12, 13, 14, 15, 16, 17, 18, 19]), (9, [18, 19, 20, 21, 10, 11, 12, 13]), (5, [12, 13, 14]), (49, [0, 1, 2, 3, 4, 5, 6, 7, 8, 9, 10, 11, 12, 13, 14, 15, 16, 17, 18, 19, 20, 21, 22, 23, 24, 25, 26, 27, 28, 29, 30])] rfl gw_wsX7_cloth
set_option maxRecDepth 20000 in
theorem gw_wsX7_rule : wsX7_rule.all goodWord = true := by decide +kernel
set_option maxRecDepth 20000 in
theorem ggL_law_X7_rule : GoodIn wsL_law wsX7_rule := goodIn_pc bsL bsL_e _ [(16, [4]), (13, [9]), (5, [10, 12, 13]), (0, [5]), (5, [14]), (16, [5, 6, 7, 8]), (3, [13]), (12, [12, 13, 14, 15]), (16, [9, 10, 11, 12]), (11, [4, 5, 6]), (49, [0, 1, 2, 3, 4, 5, 6, 7, 8, 9, 10, 11, 12, 13, 14, 15, 16, 17, 18, 19, 20, 21, 22, 23, 24, 25, 26, 27, 28, 29, 30])] rfl gw_wsX7_rule
set_option maxRecDepth 20000 in
theorem gw_wsX7_deal : wsX7_deal.all goodWord = true := by decide +kernel
set_option maxRecDepth 20000 in
theorem ggL_law_X7_deal : GoodIn wsL_law wsX7_deal := goodIn_pc bsL bsL_e _ [(17, [1, 2]), (5, [10]), (3, [13]), (5, [12, 13]), (0, [5]), (5, [14]), (17, [3, 4, 5, 6, 7]), (5, [15, 16, 17, 18, 19, 20, 21, 22]), (49, [0, 1, 2, 3, 4, 5, 6, 7, 8, 9, 10, 11, 12, 13, 14, 15, 16, 17, 18, 19, 20, 21, 22, 23, 24, 25, 26, 27, 28, 29, 30])] rfl gw_wsX7_deal
set_option maxRecDepth 20000 in
theorem gw_wsX7_seed : wsX7_seed.all goodWord = true := by decide +kernel
set_option maxRecDepth 20000 in
theorem ggL_law_X7_seed : GoodIn wsL_law wsX7_seed := goodIn_pc bsL bsL_e _ [(17, [16]), (12, [12, 13, 14]), (0, [5]), (12, [15]), (3, [13]), (49, [0, 1, 2, 3, 4, 5, 6, 7, 8, 9, 10, 11, 12, 13, 14, 15, 16, 17, 18, 19, 20, 21, 22, 23, 24, 25, 26, 27, 28, 29, 30])] rfl gw_wsX7_seed
set_option maxRecDepth 20000 in
theorem gw_wsX7_hours : wsX7_hours.all goodWord = true := by decide +kernel
set_option maxRecDepth 20000 in
theorem ggL_law_X7_hours : GoodIn wsL_law wsX7_hours := goodIn_pc bsL bsL_e _ [(19, [12, 13]), (5, [10]), (3, [13]), (5, [12, 13]), (0, [5]), (5, [14]), (19, [14, 15, 16, 17, 18, 19, 20, 21, 22, 23]), (20, [0, 1]), (16, [9, 10, 11, 12]), (11, [4, 5, 6]), (20, [2, 3, 4, 5]), (9, [18, 19, 20, 21, 10, 11, 12, 13, 22, 23]), (10, [0, 1]), (9, [14, 15, 16, 17]), (10, [2, 3, 4, 5]), (4, [2]), (10, [6, 7, 8, 9, 10, 11, 12, 13, 14, 15, 16, 17, 18, 19, 20, 21, 22, 23]), (11, [0]), (4, [3]), (11, [1, 2, 3]), (20, [6, 7, 8, 9]), (5, [19, 20, 21, 22]), (17, [3, 4, 5, 6, 7]), (49, [0, 1, 2, 3, 4, 5, 6, 7, 8, 9, 10, 11, 12, 13, 14, 15, 16, 17, 18, 19, 20, 21, 22, 23, 24, 25, 26, 27, 28, 29, 30])] rfl gw_wsX7_hours
set_option maxRecDepth 20000 in
theorem gw_wsX7_book : wsX7_book.all goodWord = true := by decide +kernel
set_option maxRecDepth 20000 in
theorem ggL_law_X7_book : GoodIn wsL_law wsX7_book := goodIn_pc bsL bsL_e _ [(20, [23]), (3, [13]), (5, [10]), (9, [10, 11, 12]), (0, [5]), (9, [13]), (49, [0, 1, 2, 3, 4, 5, 6, 7, 8, 9, 10, 11, 12, 13, 14, 15, 16, 17, 18, 19, 20, 21, 22, 23, 24, 25, 26, 27, 28, 29, 30])] rfl gw_wsX7_book
set_option maxRecDepth 20000 in
theorem gw_wsX7_behind : wsX7_behind.all goodWord = true := by decide +kernel
set_option maxRecDepth 20000 in
theorem ggL_law_X7_behind : GoodIn wsL_law wsX7_behind := goodIn_pc bsL bsL_e _ [(21, [22]), (19, [13]), (13, [9]), (5, [10]), (3, [13]), (5, [12, 13]), (0, [5]), (5, [14]), (21, [23]), (22, [0, 1, 2]), (4, [0]), (22, [3, 4, 5, 6]), (19, [14, 15, 16, 17, 18, 19, 20, 21, 22, 23]), (20, [0, 1]), (16, [9, 10, 11, 12]), (11, [4, 5, 6]), (20, [2, 3, 4, 5]), (9, [18, 19, 20, 21, 10, 11, 12, 13, 22, 23]), (10, [0, 1]), (9, [14, 15, 16, 17]), (10, [2, 3, 4, 5]), (4, [2]), (10, [6, 7, 8, 9, 10, 11, 12, 13, 14, 15, 16, 17, 18, 19, 20, 21, 22, 23]), (11, [0]), (4, [3]), (11, [1, 2, 3]), (20, [6, 7, 8, 9]), (5, [19, 20, 21, 22]), (17, [3, 4, 5, 6, 7]), (22, [7, 8, 9, 10]), (49, [0, 1, 2, 3, 4, 5, 6, 7, 8, 9, 10, 11, 12, 13, 14, 15, 16, 17, 18, 19, 20, 21, 22, 23, 24, 25, 26, 27, 28, 29, 30])] rfl gw_wsX7_behind
set_option maxRecDepth 20000 in
theorem gw_wsX7_goods : wsX7_goods.all goodWord = true := by decide +kernel
set_option maxRecDepth 20000 in
theorem ggL_law_X7_goods : GoodIn wsL_law wsX7_goods := goodIn_pc bsL bsL_e _ [(22, [18]), (19, [13]), (5, [10]), (9, [6, 7, 8]), (0, [5]), (9, [9]), (3, [13]), (5, [12, 13, 14]), (21, [23]), (22, [0, 1, 2]), (4, [0]), (22, [3, 4, 5, 6]), (19, [14, 15, 16, 17, 18, 19, 20, 21, 22, 23]), (20, [0, 1]), (16, [9, 10, 11, 12]), (11, [4, 5, 6]), (20, [2, 3, 4, 5]), (9, [18, 19, 20, 21, 10, 11, 12, 13, 22, 23]), (10, [0, 1]), (9, [14, 15, 16, 17]), (10, [2, 3, 4, 5]), (4, [2]), (10, [6, 7, 8, 9, 10, 11, 12, 13, 14, 15, 16, 17, 18, 19, 20, 21, 22, 23]), (11, [0]), (4, [3]), (11, [1, 2, 3]), (20, [6, 7, 8, 9]), (5, [19, 20, 21, 22]), (17, [3, 4, 5, 6, 7]), (22, [7, 8, 9, 10]), (49, [0, 1, 2, 3, 4, 5, 6, 7, 8, 9, 10, 11, 12, 13, 14, 15, 16, 17, 18, 19, 20, 21, 22, 23, 24, 25, 26, 27, 28, 29, 30])] rfl gw_wsX7_goods
set_option maxRecDepth 20000 in
theorem gw_wsX7_best : wsX7_best.all goodWord = true := by decide +kernel
set_option maxRecDepth 20000 in
theorem ggL_law_X7_best : GoodIn wsL_law wsX7_best := goodIn_pc bsL bsL_e _ [(23, [9]), (5, [7, 10]), (3, [13]), (5, [12, 13]), (0, [5]), (5, [14]), (21, [23]), (22, [0, 1, 2]), (4, [0]), (20, [6, 7, 8, 9]), (16, [9, 10, 11, 12]), (11, [4, 5, 6]), (9, [14, 15, 16, 17, 18, 19, 20, 21, 10, 11, 12, 13, 22, 23]), (10, [0, 1, 2, 3, 4, 5]), (4, [2]), (10, [6, 7, 8, 9, 10, 11, 12, 13, 14, 15, 16, 17, 18, 19, 20, 21, 22, 23]), (11, [0]), (4, [3]), (11, [1, 2, 3]), (5, [19, 20, 21, 22]), (17, [3, 4, 5, 6, 7]), (22, [7, 8, 9, 10]), (49, [0, 1, 2, 3, 4, 5, 6, 7, 8, 9, 10, 11, 12, 13, 14, 15, 16, 17, 18, 19, 20, 21, 22, 23, 24, 25, 26, 27, 28, 29, 30])] rfl gw_wsX7_best
set_option maxRecDepth 20000 in
theorem gw_wsX7_wider : wsX7_wider.all goodWord = true := by decide +kernel
set_option maxRecDepth 20000 in
theorem ggL_law_X7_wider : GoodIn wsL_law wsX7_wider := goodIn_pc bsL bsL_e _ [(23, [18, 19, 20]), (5, [10]), (3, [13]), (5, [12, 13]), (0, [5]), (5, [14]), (21, [23]), (22, [0, 1, 2]), (4, [0]), (16, [9, 10, 11, 12]), (11, [4, 5, 6]), (22, [3, 4, 5, 6]), (19, [14, 15, 16, 17, 18, 19, 20, 21, 22, 23]), (20, [0, 1, 2, 3, 4, 5]), (9, [18, 19, 20, 21, 10, 11, 12, 13, 22, 23]), (10, [0, 1]), (9, [14, 15, 16, 17]), (10, [2, 3, 4, 5]), (4, [2]), (10, [6, 7, 8, 9, 10, 11, 12, 13, 14, 15, 16, 17, 18, 19, 20, 21, 22, 23]), (11, [0]), (4, [3]), (11, [1, 2, 3]), (20, [6, 7, 8, 9]), (5, [19, 20, 21, 22]), (17, [3, 4, 5, 6, 7]), (22, [7, 8, 9, 10]), (14, [12, 13, 14, 15]), (49, [0, 1, 2, 3, 4, 5, 6, 7, 8, 9, 10, 11, 12, 13, 14, 15, 16, 17, 18, 19, 20, 21, 22, 23, 24, 25, 26, 27, 28, 29, 30])] rfl gw_wsX7_wider
set_option maxRecDepth 20000 in
theorem gw_wsX7_shaded : wsX7_shaded.all goodWord = true := by decide +kernel
set_option maxRecDepth 20000 in
theorem ggL_law_X7_shaded : GoodIn wsL_law wsX7_shaded := goodIn_pc bsL bsL_e _ [(24, [6]), (23, [20]), (5, [10]), (3, [13]), (9, [6, 7, 8]), (0, [5]), (9, [9]), (5, [12, 13, 14]), (21, [23]), (22, [0, 1, 2]), (4, [0]), (19, [18, 19, 20, 21, 22, 23]), (20, [0, 1]), (16, [9, 10, 11, 12]), (11, [4, 5, 6]), (20, [2, 3, 4, 5]), (9, [18, 19, 20, 21, 10, 11, 12, 13, 22, 23]), (10, [0, 1]), (9, [14, 15, 16, 17]), (10, [2, 3, 4, 5]), (4, [2]), (10, [6, 7, 8, 9, 10, 11, 12, 13, 14, 15, 16, 17, 18, 19, 20, 21, 22, 23]), (11, [0]), (4, [3]), (11, [1, 2, 3]), (20, [6, 7, 8, 9]), (5, [19, 20, 21, 22]), (17, [3, 4, 5, 6, 7]), (22, [7, 8, 9, 10]), (49, [0, 1, 2, 3, 4, 5, 6, 7, 8, 9, 10, 11, 12, 13, 14, 15, 16, 17, 18, 19, 20, 21, 22, 23, 24, 25, 26, 27, 28, 29, 30])] rfl gw_wsX7_shaded
set_option maxRecDepth 20000 in
theorem gw_wsX7_without : wsX7_without.all goodWord = true := by decide +kernel
set_option maxRecDepth 20000 in
theorem ggL_law_X7_without : GoodIn wsL_law wsX7_without := goodIn_pc bsL bsL_e _ [(24, [14]), (23, [20]), (5, [10]), (3, [13]), (14, [15]), (5, [12, 13]), (0, [5]), (5, [14]), (21, [23]), (22, [0, 1, 2]), (4, [0]), (5, [19, 20, 21, 22]), (22, [3, 4, 5, 6]), (19, [14, 15, 16, 17, 18, 19, 20, 21, 22, 23]), (20, [0, 1]), (16, [9, 10, 11, 12]), (11, [4, 5, 6]), (20, [2, 3, 4, 5]), (9, [18, 19, 20, 21, 10, 11, 12, 13, 22, 23]), (10, [0, 1]), (9, [14, 15, 16, 17]), (10, [2, 3, 4, 5]), (4, [2]), (10, [6, 7, 8, 9, 10, 11, 12, 13, 14, 15, 16, 17, 18, 19, 20, 21, 22, 23]), (11, [0]), (4, [3]), (11, [1, 2, 3]), (20, [6, 7, 8, 9]), (17, [3, 4, 5, 6, 7]), (22, [7, 8, 9, 10]), (49, [0, 1, 2, 3, 4, 5, 6, 7, 8, 9, 10, 11, 12, 13, 14, 15, 16, 17, 18, 19, 20, 21, 22, 23, 24, 25, 26, 27, 28, 29, 30])] rfl gw_wsX7_without
set_option maxRecDepth 20000 in
theorem gw_wsX7_whose : wsX7_whose.all goodWord = true := by decide +kernel
set_option maxRecDepth 20000 in
theorem ggL_law_X7_whose : GoodIn wsL_law wsX7_whose := goodIn_pc bsL bsL_e _ [(25, [21]), (23, [20]), (5, [10]), (3, [16]), (25, [22]), (3, [13, 17, 18]), (14, [15]), (25, [23]), (26, [0]), (0, [5]), (26, [1]), (13, [9]), (5, [12, 13, 14]), (21, [23]), (22, [0, 1, 2]), (4, [0]), (22, [3, 4, 5, 6]), (19, [14, 15, 16, 17, 18, 19, 20, 21, 22, 23]), (20, [0, 1]), (16, [9, 10, 11, 12]), (11, [4, 5, 6]), (20, [2, 3, 4, 5]), (9, [18, 19, 20, 21, 10, 11, 12, 13, 22, 23]), (10, [0, 1]), (9, [14, 15, 16, 17]), (10, [2, 3, 4, 5]), (4, [2]), (10, [6, 7, 8, 9, 10, 11, 12, 13, 14, 15, 16, 17, 18, 19, 20, 21, 22, 23]), (11, [0]), (4, [3]), (11, [1, 2, 3]), (20, [6, 7, 8, 9]), (5, [19, 20, 21, 22]), (17, [3, 4, 5, 6, 7]), (22, [7, 8, 9, 10]), (49, [0, 1, 2, 3, 4, 5, 6, 7, 8, 9, 10, 11, 12, 13, 14, 15, 16, 17, 18, 19, 20, 21, 22, 23, 24, 25, 26, 27, 28, 29, 30])] rfl gw_wsX7_whose
set_option maxRecDepth 20000 in
theorem gw_wsX7_fee : wsX7_fee.all goodWord = true := by decide +kernel
set_option maxRecDepth 20000 in
theorem ggL_law_X7_fee : GoodIn wsL_law wsX7_fee := goodIn_pc bsL bsL_e _ [(26, [11]), (3, [13]), (4, [2]), (10, [6, 7, 8]), (0, [5]), (10, [9, 10, 11, 12, 13, 21, 22, 23]), (11, [0]), (4, [3]), (11, [1, 2, 3]), (49, [0, 1, 2, 3, 4, 5, 6, 7, 8, 9, 10, 11, 12, 13, 14, 15, 16, 17, 18, 19, 20, 21, 22, 23, 24, 25, 26, 27, 28, 29, 30])] rfl gw_wsX7_fee
set_option maxRecDepth 20000 in
theorem gw_wsX7_fine : wsX7_fine.all goodWord = true := by decide +kernel
set_option maxRecDepth 20000 in
theorem ggL_law_X7_fine : GoodIn wsL_law wsX7_fine := goodIn_pc bsL bsL_e _ [(26, [19]), (5, [10]), (4, [2]), (9, [6, 7, 8]), (0, [5]), (9, [9]), (3, [13]), (5, [12, 13, 14]), (10, [6, 7, 8, 9, 10, 11, 12, 13]), (9, [10, 11, 12, 13, 18, 19, 20, 21, 22, 23]), (10, [0, 1, 21, 22, 23]), (11, [0]), (4, [3]), (11, [1, 2, 3]), (49, [0, 1, 2, 3, 4, 5, 6, 7, 8, 9, 10, 11, 12, 13, 14, 15, 16, 17, 18, 19, 20, 21, 22, 23, 24, 25, 26, 27, 28, 29, 30])] rfl gw_wsX7_fine
set_option maxRecDepth 20000 in
theorem gw_wsX7_feed : wsX7_feed.all goodWord = true := by decide +kernel
set_option maxRecDepth 20000 in
theorem ggL_law_X7_feed : GoodIn wsL_law wsX7_feed := goodIn_pc bsL bsL_e _ [(27, [8, 9]), (5, [11]), (4, [1]), (49, [0, 1, 2, 3, 4, 5, 6, 7, 8, 9, 10, 11, 12, 13, 14, 15, 16, 17, 18, 19, 20, 21, 22, 23, 24, 25, 26, 27, 28, 29, 30])] rfl gw_wsX7_feed
set_option maxRecDepth 20000 in
theorem gw_wsX7_trim : wsX7_trim.all goodWord = true := by decide +kernel
set_option maxRecDepth 20000 in
theorem ggL_law_X7_trim : GoodIn wsL_law wsX7_trim := goodIn_pc bsL bsL_e _ [(27, [17, 9]), (5, [10, 12, 13]), (0, [5]), (5, [14]), (49, [0, 1, 2, 3, 4, 5, 6, 7, 8, 9, 10, 11, 12, 13, 14, 15, 16, 17, 18, 19, 20, 21, 22, 23, 24, 25, 26, 27, 28, 29, 30])] rfl gw_wsX7_trim
set_option maxRecDepth 20000 in
theorem gw_wsX7_text : wsX7_text.all goodWord = true := by decide +kernel
set_option maxRecDepth 20000 in
theorem ggL_law_X7_text : GoodIn wsL_law wsX7_text := goodIn_pc bsL bsL_e _ [(36, [6, 7]), (3, [13]), (5, [11]), (36, [8, 9, 10, 11, 12]), (0, [5]), (36, [13, 14, 15, 16, 17, 18]), (27, [9]), (10, [10, 11, 12, 13]), (36, [19, 20, 21, 22]), (4, [1]), (36, [23]), (37, [0, 1, 2, 3, 4, 5, 6]), (5, [12, 13, 14]), (37, [7, 8, 9, 10, 11, 12, 13, 14, 15, 16, 17, 18, 19, 20, 21, 22, 23]), (38, [0, 1, 2, 3, 4, 5, 6, 7, 8, 9, 10, 11, 12, 13, 14, 15, 16, 17, 18, 19, 20, 21, 22, 23]), (39, [0, 1, 2, 3, 4, 5, 6, 7]), (49, [0, 1, 2, 3, 4, 5, 6, 7, 8, 9, 10, 11, 12, 13, 14, 15, 16, 17, 18, 19, 20, 21, 22, 23, 24, 25, 26, 27, 28, 29, 30])] rfl gw_wsX7_text
set_option maxRecDepth 20000 in
theorem gw_wsX7_textTold : wsX7_textTold.all goodWord = true := by decide +kernel
set_option maxRecDepth 20000 in
theorem ggL_law_X7_textTold : GoodIn wsL_law wsX7_textTold := goodIn_pc bsL bsL_e _ [(39, [17]), (5, [10]), (3, [13]), (39, [18, 19, 20]), (0, [5]), (39, [21]), (5, [12, 13, 14]), (10, [10, 11, 12, 13]), (49, [0, 1, 2, 3, 4, 5, 6, 7, 8, 9, 10, 11, 12, 13, 14, 15, 16, 17, 18, 19, 20, 21, 22, 23, 24, 25, 26, 27, 28, 29, 30])] rfl gw_wsX7_textTold
set_option maxRecDepth 20000 in
theorem gw_wsX7_why : wsX7_why.all goodWord = true := by decide +kernel
set_option maxRecDepth 20000 in
theorem ggL_law_X7_why : GoodIn wsL_law wsX7_why := goodIn_pc bsL bsL_e _ [(40, [5, 6]), (5, [10, 12, 13]), (0, [5]), (5, [14]), (10, [6, 7, 8, 9]), (3, [13]), (10, [10, 11, 12, 13]), (14, [12, 13, 14, 15]), (49, [0, 1, 2, 3, 4, 5, 6, 7, 8, 9, 10, 11, 12, 13, 14, 15, 16, 17, 18, 19, 20, 21, 22, 23, 24, 25, 26, 27, 28, 29, 30])] rfl gw_wsX7_why
set_option maxRecDepth 20000 in
theorem gw_wsX7_sheet : wsX7_sheet.all goodWord = true := by decide +kernel
set_option maxRecDepth 20000 in
theorem ggL_law_X7_sheet : GoodIn wsL_law wsX7_sheet := goodIn_pc bsL bsL_e _ [(40, [19, 20]), (5, [10]), (40, [21]), (3, [16, 17, 18]), (25, [23]), (26, [0]), (0, [5]), (26, [1]), (13, [9]), (5, [12, 13, 14]), (49, [0, 1, 2, 3, 4, 5, 6, 7, 8, 9, 10, 11, 12, 13, 14, 15, 16, 17, 18, 19, 20, 21, 22, 23, 24, 25, 26, 27, 28, 29, 30])] rfl gw_wsX7_sheet
set_option maxRecDepth 20000 in
theorem gw_wsX7_mark : wsX7_mark.all goodWord = true := by decide +kernel
set_option maxRecDepth 20000 in
theorem ggL_law_X7_mark : GoodIn wsL_law wsX7_mark := goodIn_pc bsL bsL_e _ [(41, [11]), (5, [10]), (3, [16]), (25, [22]), (3, [17]), (41, [12]), (14, [15]), (12, [0]), (41, [13, 14]), (3, [18]), (25, [23]), (26, [0]), (0, [5]), (26, [1]), (13, [9]), (5, [12, 13, 14]), (49, [0, 1, 2, 3, 4, 5, 6, 7, 8, 9, 10, 11, 12, 13, 14, 15, 16, 17, 18, 19, 20, 21, 22, 23, 24, 25, 26, 27, 28, 29, 30])] rfl gw_wsX7_mark
set_option maxRecDepth 20000 in
theorem gw_wsX7_pour : wsX7_pour.all goodWord = true := by decide +kernel
set_option maxRecDepth 20000 in
theorem ggL_law_X7_pour : GoodIn wsL_law wsX7_pour := goodIn_pc bsL bsL_e _ [(42, [0]), (5, [10]), (3, [16]), (25, [22]), (3, [17, 13, 18]), (14, [15]), (25, [23]), (26, [0]), (0, [5]), (26, [1]), (13, [9]), (5, [12, 13, 14]), (11, [4, 5, 6]), (12, [12, 13, 14, 15]), (49, [0, 1, 2, 3, 4, 5, 6, 7, 8, 9, 10, 11, 12, 13, 14, 15, 16, 17, 18, 19, 20, 21, 22, 23, 24, 25, 26, 27, 28, 29, 30])] rfl gw_wsX7_pour
set_option maxRecDepth 20000 in
theorem gw_wsX7_reads : wsX7_reads.all goodWord = true := by decide +kernel
set_option maxRecDepth 20000 in
theorem ggL_law_X7_reads : GoodIn wsL_law wsX7_reads := goodIn_pc bsL bsL_e _ [(42, [9]), (5, [10]), (3, [16]), (25, [22]), (3, [17, 18]), (14, [15]), (3, [13]), (25, [23]), (26, [0]), (0, [5]), (26, [1]), (13, [9]), (5, [12, 13, 14]), (9, [14, 15, 16, 17, 18, 19, 20, 21, 10, 11, 12, 13, 22, 23]), (10, [0, 1, 2, 3, 4, 5]), (4, [2]), (10, [6, 7, 8, 9, 10, 11, 12, 13, 14, 15, 16, 17, 18, 19, 20, 21, 22, 23]), (11, [0]), (4, [3]), (11, [1, 2, 3, 4, 5, 6]), (49, [0, 1, 2, 3, 4, 5, 6, 7, 8, 9, 10, 11, 12, 13, 14, 15, 16, 17, 18, 19, 20, 21, 22, 23, 24, 25, 26, 27, 28, 29, 30])] rfl gw_wsX7_reads
set_option maxRecDepth 20000 in
theorem gw_wsX7_copy : wsX7_copy.all goodWord = true := by decide +kernel
set_option maxRecDepth 20000 in
theorem ggL_law_X7_copy : GoodIn wsL_law wsX7_copy := goodIn_pc bsL bsL_e _ [(42, [22]), (5, [10]), (3, [16]), (25, [22]), (12, [0]), (3, [17]), (41, [12]), (4, [4]), (3, [18]), (25, [23]), (26, [0]), (0, [5]), (26, [1]), (13, [9]), (5, [12, 13, 14]), (49, [0, 1, 2, 3, 4, 5, 6, 7, 8, 9, 10, 11, 12, 13, 14, 15, 16, 17, 18, 19, 20, 21, 22, 23, 24, 25, 26, 27, 28, 29, 30])] rfl gw_wsX7_copy
set_option maxRecDepth 20000 in
theorem gw_wsX7_lay : wsX7_lay.all goodWord = true := by decide +kernel
set_option maxRecDepth 20000 in
theorem ggL_law_X7_lay : GoodIn wsL_law wsX7_lay := goodIn_pc bsL bsL_e _ [(43, [19]), (5, [10]), (3, [16]), (25, [22]), (3, [19, 20, 21, 22, 17, 23, 18]), (9, [6, 7, 8]), (0, [5]), (9, [9]), (3, [13]), (5, [12, 13, 14]), (25, [23]), (26, [0, 1]), (13, [9]), (43, [20, 21, 22, 23]), (9, [10, 11, 12, 13]), (11, [7, 8, 9, 10]), (49, [0, 1, 2, 3, 4, 5, 6, 7, 8, 9, 10, 11, 12, 13, 14, 15, 16, 17, 18, 19, 20, 21, 22, 23, 24, 25, 26, 27, 28, 29, 30])] rfl gw_wsX7_lay
set_option maxRecDepth 20000 in
theorem gw_wsX7_ask : wsX7_ask.all goodWord = true := by decide +kernel
set_option maxRecDepth 20000 in
theorem ggL_law_X7_ask : GoodIn wsL_law wsX7_ask := goodIn_pc bsL bsL_e _ [(44, [13]), (5, [7, 10]), (3, [19]), (25, [22]), (3, [20, 21]), (12, [0]), (43, [20, 21]), (0, [5]), (43, [22, 23]), (5, [12, 13, 14]), (12, [1, 2, 3]), (49, [0, 1, 2, 3, 4, 5, 6, 7, 8, 9, 10, 11, 12, 13, 14, 15, 16, 17, 18, 19, 20, 21, 22, 23, 24, 25, 26, 27, 28, 29, 30])] rfl gw_wsX7_ask
set_option maxRecDepth 20000 in
theorem gw_wsX7_item : wsX7_item.all goodWord = true := by decide +kernel
set_option maxRecDepth 20000 in
theorem ggL_law_X7_item : GoodIn wsL_law wsX7_item := goodIn_pc bsL bsL_e _ [(44, [21]), (5, [10]), (3, [19]), (25, [22]), (12, [0]), (3, [22]), (41, [12]), (3, [23]), (14, [15]), (43, [20, 21]), (0, [5]), (43, [22, 23]), (5, [12, 13, 14]), (49, [0, 1, 2, 3, 4, 5, 6, 7, 8, 9, 10, 11, 12, 13, 14, 15, 16, 17, 18, 19, 20, 21, 22, 23, 24, 25, 26, 27, 28, 29, 30])] rfl gw_wsX7_item
set_option maxRecDepth 20000 in
theorem gw_wsX7_rest : wsX7_rest.all goodWord = true := by decide +kernel
set_option maxRecDepth 20000 in
theorem ggL_law_X7_rest : GoodIn wsL_law wsX7_rest := goodIn_pc bsL bsL_e _ [(45, [6]), (5, [10]), (3, [19]), (25, [22]), (12, [0]), (45, [7]), (3, [20]), (43, [20, 21]), (0, [5]), (43, [22, 23]), (5, [12, 13, 14]), (49, [0, 1, 2, 3, 4, 5, 6, 7, 8, 9, 10, 11, 12, 13, 14, 15, 16, 17, 18, 19, 20, 21, 22, 23, 24, 25, 26, 27, 28, 29, 30])] rfl gw_wsX7_rest
set_option maxRecDepth 20000 in
theorem gw_wsX7_tell : wsX7_tell.all goodWord = true := by decide +kernel
set_option maxRecDepth 20000 in
theorem ggL_law_X7_tell : GoodIn wsL_law wsX7_tell := goodIn_pc bsL bsL_e _ [(45, [16, 17]), (5, [11]), (4, [5]), (49, [0, 1, 2, 3, 4, 5, 6, 7, 8, 9, 10, 11, 12, 13, 14, 15, 16, 17, 18, 19, 20, 21, 22, 23, 24, 25, 26, 27, 28, 29, 30])] rfl gw_wsX7_tell
set_option maxRecDepth 20000 in
theorem gw_wsX7_check : wsX7_check.all goodWord = true := by decide +kernel
set_option maxRecDepth 20000 in
theorem ggL_law_X7_check : GoodIn wsL_law wsX7_check := goodIn_pc bsL bsL_e _ [(46, [2]), (45, [17]), (46, [3]), (5, [10]), (46, [4]), (45, [7]), (3, [13, 15, 14]), (4, [6, 5]), (5, [12, 13]), (0, [5]), (5, [14]), (46, [5, 6, 7, 8]), (19, [14, 15, 16, 17, 18, 19, 20, 21, 22, 23]), (20, [0, 1]), (16, [9, 10, 11, 12]), (11, [4, 5, 6]), (20, [2, 3, 4, 5]), (9, [18, 19, 20, 21, 10, 11, 12, 13, 22, 23]), (10, [0, 1]), (9, [14, 15, 16, 17]), (10, [2, 3, 4, 5]), (4, [2]), (10, [6, 7, 8, 9, 10, 11, 12, 13, 14, 15, 16, 17, 18, 19, 20, 21, 22, 23]), (11, [0]), (4, [3]), (11, [1, 2, 3]), (20, [6, 7, 8, 9]), (5, [19, 20, 21, 22]), (17, [3, 4, 5, 6, 7]), (49, [0, 1, 2, 3, 4, 5, 6, 7, 8, 9, 10, 11, 12, 13, 14, 15, 16, 17, 18, 19, 20, 21, 22, 23, 24, 25, 26, 27, 28, 29, 30])] rfl gw_wsX7_check
set_option maxRecDepth 20000 in
theorem gw_wsX7_keep : wsX7_keep.all goodWord = true := by decide +kernel
set_option maxRecDepth 20000 in
theorem ggL_law_X7_keep : GoodIn wsL_law wsX7_keep := goodIn_pc bsL bsL_e _ [(46, [16, 4]), (3, [13, 14]), (46, [5, 6, 7]), (0, [5]), (46, [8]), (49, [0, 1, 2, 3, 4, 5, 6, 7, 8, 9, 10, 11, 12, 13, 14, 15, 16, 17, 18, 19, 20, 21, 22, 23, 24, 25, 26, 27, 28, 29, 30])] rfl gw_wsX7_keep
set_option maxRecDepth 20000 in
theorem gw_wsX7_back : wsX7_back.all goodWord = true := by decide +kernel
set_option maxRecDepth 20000 in
theorem ggL_law_X7_back : GoodIn wsL_law wsX7_back := goodIn_pc bsL bsL_e _ [(47, [0]), (46, [4]), (45, [7]), (3, [14, 13]), (46, [5, 6, 7]), (0, [5]), (46, [8]), (49, [0, 1, 2, 3, 4, 5, 6, 7, 8, 9, 10, 11, 12, 13, 14, 15, 16, 17, 18, 19, 20, 21, 22, 23, 24, 25, 26, 27, 28, 29, 30])] rfl gw_wsX7_back
set_option maxRecDepth 20000 in
theorem gw_wsX7_count : wsX7_count.all goodWord = true := by decide +kernel
set_option maxRecDepth 20000 in
theorem ggL_law_X7_count : GoodIn wsL_law wsX7_count := goodIn_pc bsL bsL_e _ [(47, [15]), (3, [13]), (45, [17]), (27, [9]), (5, [10]), (47, [16, 17, 18]), (0, [5]), (47, [19]), (14, [16, 17, 18, 19]), (9, [18, 19, 20, 21, 10, 11, 12, 13, 22, 23]), (10, [0, 1]), (5, [12, 13, 14]), (49, [0, 1, 2, 3, 4, 5, 6, 7, 8, 9, 10, 11, 12, 13, 14, 15, 16, 17, 18, 19, 20, 21, 22, 23, 24, 25, 26, 27, 28, 29, 30])] rfl gw_wsX7_count
set_option maxRecDepth 20000 in
theorem gL_law_X7_init : GoodIn wsL_law (wsX7_init) := ggL_law_X7_init
set_option maxRecDepth 20000 in
theorem gL_law_X7_stall : GoodIn wsL_law (wsV RL 17 RX7 yX7_stall wsX7_stall) := goodIn_app (goodIn_pc bsL bsL_e _ [(5, [3, 4, 5]), (0, [5])] rfl (by decide +kernel)) ggL_law_X7_stall
set_option maxRecDepth 20000 in
theorem gL_law_X7_told : GoodIn wsL_law (wsV RL 22 RX7 yX7_told wsX7_told) := goodIn_app (goodIn_pc bsL bsL_e _ [(9, [2, 3, 4]), (0, [5])] rfl (by decide +kernel)) ggL_law_X7_told
set_option maxRecDepth 20000 in
theorem gL_law_X7_as : GoodIn wsL_law (wsV RL 26 RX7 yX7_as wsX7_as) := goodIn_app (goodIn_pc bsL bsL_e _ [(11, [20, 21, 22]), (0, [5])] rfl (by decide +kernel)) ggL_law_X7_as
set_option maxRecDepth 20000 in
theorem gL_law_X7_turns : GoodIn wsL_law (wsV RL 30 RX7 yX7_turns wsX7_turns) := goodIn_app (goodIn_pc bsL bsL_e _ [(12, [8, 9, 10]), (0, [5])] rfl (by decide +kernel)) ggL_law_X7_turns
set_option maxRecDepth 20000 in
theorem gL_law_X7_set : GoodIn wsL_law (wsV RL 34 RX7 yX7_set wsX7_set) := goodIn_app (goodIn_pc bsL bsL_e _ [(13, [5, 6, 7]), (0, [5])] rfl (by decide +kernel)) ggL_law_X7_set
set_option maxRecDepth 20000 in
theorem gL_law_X7_cloth : GoodIn wsL_law (wsV RL 39 RX7 yX7_cloth wsX7_cloth) := goodIn_app (goodIn_pc bsL bsL_e _ [(14, [4, 5, 6]), (0, [5])] rfl (by decide +kernel)) ggL_law_X7_cloth
set_option maxRecDepth 20000 in
theorem gL_law_X7_rule : GoodIn wsL_law (wsV RL 43 RX7 yX7_rule wsX7_rule) := goodIn_app (goodIn_pc bsL bsL_e _ [(16, [1, 2, 3]), (0, [5])] rfl (by decide +kernel)) ggL_law_X7_rule
set_option maxRecDepth 20000 in
theorem gL_law_X7_deal : GoodIn wsL_law (wsV RL 47 RX7 yX7_deal wsX7_deal) := goodIn_app (goodIn_pc bsL bsL_e _ [(16, [22, 23]), (17, [0]), (0, [5])] rfl (by decide +kernel)) ggL_law_X7_deal
set_option maxRecDepth 20000 in
theorem gL_law_X7_seed : GoodIn wsL_law (wsV RL 51 RX7 yX7_seed wsX7_seed) := goodIn_app (goodIn_pc bsL bsL_e _ [(17, [13, 14, 15]), (0, [5])] rfl (by decide +kernel)) ggL_law_X7_seed
set_option maxRecDepth 20000 in
theorem gL_law_X7_hours : GoodIn wsL_law (wsV RL 55 RX7 yX7_hours wsX7_hours) := goodIn_app (goodIn_pc bsL bsL_e _ [(19, [9, 10, 11]), (0, [5])] rfl (by decide +kernel)) ggL_law_X7_hours
set_option maxRecDepth 20000 in
theorem gL_law_X7_book : GoodIn wsL_law (wsV RL 59 RX7 yX7_book wsX7_book) := goodIn_app (goodIn_pc bsL bsL_e _ [(20, [20, 21, 22]), (0, [5])] rfl (by decide +kernel)) ggL_law_X7_book
set_option maxRecDepth 20000 in
theorem gL_law_X7_behind : GoodIn wsL_law (wsV RL 63 RX7 yX7_behind wsX7_behind) := goodIn_app (goodIn_pc bsL bsL_e _ [(21, [19, 20, 21]), (0, [5])] rfl (by decide +kernel)) ggL_law_X7_behind
set_option maxRecDepth 20000 in
theorem gL_law_X7_goods : GoodIn wsL_law (wsV RL 67 RX7 yX7_goods wsX7_goods) := goodIn_app (goodIn_pc bsL bsL_e _ [(22, [15, 16, 17]), (0, [5])] rfl (by decide +kernel)) ggL_law_X7_goods
set_option maxRecDepth 20000 in
theorem gL_law_X7_best : GoodIn wsL_law (wsV RL 71 RX7 yX7_best wsX7_best) := goodIn_app (goodIn_pc bsL bsL_e _ [(23, [6, 7, 8]), (0, [5])] rfl (by decide +kernel)) ggL_law_X7_best
set_option maxRecDepth 20000 in
theorem gL_law_X7_wider : GoodIn wsL_law (wsV RL 75 RX7 yX7_wider wsX7_wider) := goodIn_app (goodIn_pc bsL bsL_e _ [(23, [15, 16, 17]), (0, [5])] rfl (by decide +kernel)) ggL_law_X7_wider
set_option maxRecDepth 20000 in
theorem gL_law_X7_shaded : GoodIn wsL_law (wsV RL 79 RX7 yX7_shaded wsX7_shaded) := goodIn_app (goodIn_pc bsL bsL_e _ [(24, [3, 4, 5]), (0, [5])] rfl (by decide +kernel)) ggL_law_X7_shaded
set_option maxRecDepth 20000 in
theorem gL_law_X7_without : GoodIn wsL_law (wsV RL 83 RX7 yX7_without wsX7_without) := goodIn_app (goodIn_pc bsL bsL_e _ [(24, [11, 12, 13]), (0, [5])] rfl (by decide +kernel)) ggL_law_X7_without
set_option maxRecDepth 20000 in
theorem gL_law_X7_whose : GoodIn wsL_law (wsV RL 87 RX7 yX7_whose wsX7_whose) := goodIn_app (goodIn_pc bsL bsL_e _ [(25, [18, 19, 20]), (0, [5])] rfl (by decide +kernel)) ggL_law_X7_whose
set_option maxRecDepth 20000 in
theorem gL_law_X7_fee : GoodIn wsL_law (wsV RL 92 RX7 yX7_fee wsX7_fee) := goodIn_app (goodIn_pc bsL bsL_e _ [(26, [8, 9, 10]), (0, [5])] rfl (by decide +kernel)) ggL_law_X7_fee
set_option maxRecDepth 20000 in
theorem gL_law_X7_fine : GoodIn wsL_law (wsV RL 96 RX7 yX7_fine wsX7_fine) := goodIn_app (goodIn_pc bsL bsL_e _ [(26, [16, 17, 18]), (0, [5])] rfl (by decide +kernel)) ggL_law_X7_fine
set_option maxRecDepth 20000 in
theorem gL_law_X7_feed : GoodIn wsL_law (wsV RL 100 RX7 yX7_feed wsX7_feed) := goodIn_app (goodIn_pc bsL bsL_e _ [(27, [5, 6, 7]), (0, [5])] rfl (by decide +kernel)) ggL_law_X7_feed
set_option maxRecDepth 20000 in
theorem gL_law_X7_trim : GoodIn wsL_law (wsV RL 104 RX7 yX7_trim wsX7_trim) := goodIn_app (goodIn_pc bsL bsL_e _ [(27, [14, 15, 16]), (0, [5])] rfl (by decide +kernel)) ggL_law_X7_trim
set_option maxRecDepth 20000 in
theorem gL_law_X7_text : GoodIn wsL_law (wsV RL 108 RX7 yX7_text wsX7_text) := goodIn_app (goodIn_pc bsL bsL_e _ [(36, [3, 4, 5]), (0, [5])] rfl (by decide +kernel)) ggL_law_X7_text
set_option maxRecDepth 20000 in
theorem gL_law_X7_textTold : GoodIn wsL_law (wsV RL 112 RX7 yX7_textTold wsX7_textTold) := goodIn_app (goodIn_pc bsL bsL_e _ [(39, [14, 15, 16]), (0, [5])] rfl (by decide +kernel)) ggL_law_X7_textTold
set_option maxRecDepth 20000 in
theorem gL_law_X7_why : GoodIn wsL_law (wsV RL 116 RX7 yX7_why wsX7_why) := goodIn_app (goodIn_pc bsL bsL_e _ [(40, [2, 3, 4]), (0, [5])] rfl (by decide +kernel)) ggL_law_X7_why
set_option maxRecDepth 20000 in
theorem gL_law_X7_sheet : GoodIn wsL_law (wsV RL 120 RX7 yX7_sheet wsX7_sheet) := goodIn_app (goodIn_pc bsL bsL_e _ [(40, [16, 17, 18]), (0, [5])] rfl (by decide +kernel)) ggL_law_X7_sheet
set_option maxRecDepth 20000 in
theorem gL_law_X7_mark : GoodIn wsL_law (wsV RL 124 RX7 yX7_mark wsX7_mark) := goodIn_app (goodIn_pc bsL bsL_e _ [(41, [8, 9, 10]), (0, [5])] rfl (by decide +kernel)) ggL_law_X7_mark
set_option maxRecDepth 20000 in
theorem gL_law_X7_pour : GoodIn wsL_law (wsV RL 128 RX7 yX7_pour wsX7_pour) := goodIn_app (goodIn_pc bsL bsL_e _ [(41, [21, 22, 23]), (0, [5])] rfl (by decide +kernel)) ggL_law_X7_pour
set_option maxRecDepth 20000 in
theorem gL_law_X7_reads : GoodIn wsL_law (wsV RL 132 RX7 yX7_reads wsX7_reads) := goodIn_app (goodIn_pc bsL bsL_e _ [(42, [6, 7, 8]), (0, [5])] rfl (by decide +kernel)) ggL_law_X7_reads
set_option maxRecDepth 20000 in
theorem gL_law_X7_copy : GoodIn wsL_law (wsV RL 137 RX7 yX7_copy wsX7_copy) := goodIn_app (goodIn_pc bsL bsL_e _ [(42, [19, 20, 21]), (0, [5])] rfl (by decide +kernel)) ggL_law_X7_copy
set_option maxRecDepth 20000 in
theorem gL_law_X7_lay : GoodIn wsL_law (wsV RL 141 RX7 yX7_lay wsX7_lay) := goodIn_app (goodIn_pc bsL bsL_e _ [(43, [16, 17, 18]), (0, [5])] rfl (by decide +kernel)) ggL_law_X7_lay
set_option maxRecDepth 20000 in
theorem gL_law_X7_ask : GoodIn wsL_law (wsV RL 145 RX7 yX7_ask wsX7_ask) := goodIn_app (goodIn_pc bsL bsL_e _ [(44, [10, 11, 12]), (0, [5])] rfl (by decide +kernel)) ggL_law_X7_ask
set_option maxRecDepth 20000 in
theorem gL_law_X7_item : GoodIn wsL_law (wsV RL 149 RX7 yX7_item wsX7_item) := goodIn_app (goodIn_pc bsL bsL_e _ [(44, [18, 19, 20]), (0, [5])] rfl (by decide +kernel)) ggL_law_X7_item
set_option maxRecDepth 20000 in
theorem gL_law_X7_rest : GoodIn wsL_law (wsV RL 153 RX7 yX7_rest wsX7_rest) := goodIn_app (goodIn_pc bsL bsL_e _ [(45, [3, 4, 5]), (0, [5])] rfl (by decide +kernel)) ggL_law_X7_rest
set_option maxRecDepth 20000 in
theorem gL_law_X7_tell : GoodIn wsL_law (wsV RL 157 RX7 yX7_tell wsX7_tell) := goodIn_app (goodIn_pc bsL bsL_e _ [(45, [13, 14, 15]), (0, [5])] rfl (by decide +kernel)) ggL_law_X7_tell
set_option maxRecDepth 20000 in
theorem gL_law_X7_check : GoodIn wsL_law (wsV RL 161 RX7 yX7_check wsX7_check) := goodIn_app (goodIn_pc bsL bsL_e _ [(45, [23]), (46, [0, 1]), (0, [5])] rfl (by decide +kernel)) ggL_law_X7_check
set_option maxRecDepth 20000 in
theorem gL_law_X7_keep : GoodIn wsL_law (wsV RL 165 RX7 yX7_keep wsX7_keep) := goodIn_app (goodIn_pc bsL bsL_e _ [(46, [13, 14, 15]), (0, [5])] rfl (by decide +kernel)) ggL_law_X7_keep
set_option maxRecDepth 20000 in
theorem gL_law_X7_back : GoodIn wsL_law (wsV RL 169 RX7 yX7_back wsX7_back) := goodIn_app (goodIn_pc bsL bsL_e _ [(46, [21, 22, 23]), (0, [5])] rfl (by decide +kernel)) ggL_law_X7_back
set_option maxRecDepth 20000 in
theorem gL_law_X7_count : GoodIn wsL_law (wsV RL 173 RX7 yX7_count wsX7_count) := goodIn_app (goodIn_pc bsL bsL_e _ [(47, [12, 13, 14]), (0, [5])] rfl (by decide +kernel)) ggL_law_X7_count
