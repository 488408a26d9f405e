theorem dX7_isIn_0 : decode cX7_isIn 0 = .ok (.lload_n 0, 1) := zk30 (by decide +kernel)
theorem dX7_isIn_1 : decode cX7_isIn 1 = .ok (.lload_n 2, 1) := zk32 (by decide +kernel)
theorem dX7_isIn_2 : decode cX7_isIn 2 = .ok (.lcmp, 1) := zk148 (by decide +kernel)
theorem dX7_isIn_3 : decode cX7_isIn 3 = .ok (.ifCond .lt 14, 3) := zk155 0 14 rfl (by decide +kernel)
theorem dX7_isIn_6 : decode cX7_isIn 6 = .ok (.lload_n 0, 1) := zk30 (by decide +kernel)
theorem dX7_isIn_7 : decode cX7_isIn 7 = .ok (.lload 4, 2) := zk22 4 (by decide +kernel)
theorem dX7_isIn_9 : decode cX7_isIn 9 = .ok (.lcmp, 1) := zk148 (by decide +kernel)
theorem dX7_isIn_10 : decode cX7_isIn 10 = .ok (.ifCond .gt 7, 3) := zk157 0 7 rfl (by decide +kernel)
theorem dX7_isIn_13 : decode cX7_isIn 13 = .ok (.iconst 1, 1) := zk4 (by decide +kernel)
theorem dX7_isIn_14 : decode cX7_isIn 14 = .ok (.goto 4, 3) := zk167 0 4 rfl (by decide +kernel)
theorem dX7_isIn_17 : decode cX7_isIn 17 = .ok (.iconst 0, 1) := zk3 (by decide +kernel)
theorem dX7_isIn_18 : decode cX7_isIn 18 = .ok (.ireturn, 1) := zk172 (by decide +kernel)
theorem dX7_within_0 : decode cX7_within 0 = .ok (.iload_n 0, 1) := zk26 (by decide +kernel)
theorem dX7_within_1 : decode cX7_within 1 = .ok (.ifCond .ge 7, 3) := zk156 0 7 rfl (by decide +kernel)
theorem dX7_within_4 : decode cX7_within 4 = .ok (.iconst 0, 1) := zk3 (by decide +kernel)
theorem dX7_within_5 : decode cX7_within 5 = .ok (.goto 13, 3) := zk167 0 13 rfl (by decide +kernel)
theorem dX7_within_8 : decode cX7_within 8 = .ok (.iload_n 0, 1) := zk26 (by decide +kernel)
theorem dX7_within_9 : decode cX7_within 9 = .ok (.iload_n 1, 1) := zk27 (by decide +kernel)
theorem dX7_within_10 : decode cX7_within 10 = .ok (.if_icmp .le 7, 3) := zk164 0 7 rfl (by decide +kernel)
theorem dX7_within_13 : decode cX7_within 13 = .ok (.iload_n 1, 1) := zk27 (by decide +kernel)
theorem dX7_within_14 : decode cX7_within 14 = .ok (.goto 4, 3) := zk167 0 4 rfl (by decide +kernel)
theorem dX7_within_17 : decode cX7_within 17 = .ok (.iload_n 0, 1) := zk26 (by decide +kernel)
theorem dX7_within_18 : decode cX7_within 18 = .ok (.ireturn, 1) := zk172 (by decide +kernel)
theorem dX7_off_0 : decode cX7_off 0 = .ok (.iload_n 0, 1) := zk26 (by decide +kernel)
theorem dX7_off_1 : decode cX7_off 1 = .ok (.iload_n 1, 1) := zk27 (by decide +kernel)
theorem dX7_off_2 : decode cX7_off 2 = .ok (.if_icmp .ge 9, 3) := zk162 0 9 rfl (by decide +kernel)
theorem dX7_off_5 : decode cX7_off 5 = .ok (.iload_n 1, 1) := zk27 (by decide +kernel)
theorem dX7_off_6 : decode cX7_off 6 = .ok (.iload_n 0, 1) := zk26 (by decide +kernel)
theorem dX7_off_7 : decode cX7_off 7 = .ok (.isub, 1) := zk100 (by decide +kernel)
theorem dX7_off_8 : decode cX7_off 8 = .ok (.goto 6, 3) := zk167 0 6 rfl (by decide +kernel)
theorem dX7_off_11 : decode cX7_off 11 = .ok (.iload_n 0, 1) := zk26 (by decide +kernel)
theorem dX7_off_12 : decode cX7_off 12 = .ok (.iload_n 1, 1) := zk27 (by decide +kernel)
theorem dX7_off_13 : decode cX7_off 13 = .ok (.isub, 1) := zk100 (by decide +kernel)
theorem dX7_off_14 : decode cX7_off 14 = .ok (.ireturn, 1) := zk172 (by decide +kernel)
theorem dX7_becomes_0 : decode cX7_becomes 0 = .ok (.aload_n 0, 1) := zk42 (by decide +kernel)
theorem dX7_becomes_1 : decode cX7_becomes 1 = .ok (.getfield 7, 3) := zk180 0 7 (by decide +kernel)
theorem dX7_becomes_4 : decode cX7_becomes 4 = .ok (.iload_n 1, 1) := zk27 (by decide +kernel)
theorem dX7_becomes_5 : decode cX7_becomes 5 = .ok (.iaload, 1) := zk46 (by decide +kernel)
theorem dX7_becomes_6 : decode cX7_becomes 6 = .ok (.istore_n 3, 1) := zk62 (by decide +kernel)
theorem dX7_becomes_7 : decode cX7_becomes 7 = .ok (.aload_n 0, 1) := zk42 (by decide +kernel)
theorem dX7_becomes_8 : decode cX7_becomes 8 = .ok (.getfield 7, 3) := zk180 0 7 (by decide +kernel)
theorem dX7_becomes_11 : decode cX7_becomes 11 = .ok (.iload_n 1, 1) := zk27 (by decide +kernel)
theorem dX7_becomes_12 : decode cX7_becomes 12 = .ok (.iload_n 2, 1) := zk28 (by decide +kernel)
theorem dX7_becomes_13 : decode cX7_becomes 13 = .ok (.iastore, 1) := zk79 (by decide +kernel)
theorem dX7_becomes_14 : decode cX7_becomes 14 = .ok (.iload_n 3, 1) := zk29 (by decide +kernel)
theorem dX7_becomes_15 : decode cX7_becomes 15 = .ok (.ireturn, 1) := zk172 (by decide +kernel)
theorem dX7_textAt_0 : decode cX7_textAt 0 = .ok (.bipush 47, 2) := zk16 47 rfl (by decide +kernel)
theorem dX7_textAt_2 : decode cX7_textAt 2 = .ok (.sipush 200, 3) := zk17 0 200 rfl (by decide +kernel)
theorem dX7_textAt_5 : decode cX7_textAt 5 = .ok (.iload_n 1, 1) := zk27 (by decide +kernel)
theorem dX7_textAt_6 : decode cX7_textAt 6 = .ok (.imul, 1) := zk104 (by decide +kernel)
theorem dX7_textAt_7 : decode cX7_textAt 7 = .ok (.iadd, 1) := zk96 (by decide +kernel)
theorem dX7_textAt_8 : decode cX7_textAt 8 = .ok (.ireturn, 1) := zk172 (by decide +kernel)
theorem dX7_of_0 : decode cX7_of 0 = .ok (.aload_n 0, 1) := zk42 (by decide +kernel)
theorem dX7_of_1 : decode cX7_of 1 = .ok (.getfield 7, 3) := zk180 0 7 (by decide +kernel)
theorem dX7_of_4 : decode cX7_of 4 = .ok (.bipush 11, 2) := zk16 11 rfl (by decide +kernel)
theorem dX7_of_6 : decode cX7_of 6 = .ok (.iconst 4, 1) := zk7 (by decide +kernel)
theorem dX7_of_7 : decode cX7_of 7 = .ok (.iload_n 1, 1) := zk27 (by decide +kernel)
theorem dX7_of_8 : decode cX7_of 8 = .ok (.imul, 1) := zk104 (by decide +kernel)
theorem dX7_of_9 : decode cX7_of 9 = .ok (.iadd, 1) := zk96 (by decide +kernel)
theorem dX7_of_10 : decode cX7_of 10 = .ok (.iload_n 2, 1) := zk28 (by decide +kernel)
theorem dX7_of_11 : decode cX7_of 11 = .ok (.iadd, 1) := zk96 (by decide +kernel)
theorem dX7_of_12 : decode cX7_of 12 = .ok (.iaload, 1) := zk46 (by decide +kernel)
theorem dX7_of_13 : decode cX7_of 13 = .ok (.ireturn, 1) := zk172 (by decide +kernel)
theorem dX7_sets_0 : decode cX7_sets 0 = .ok (.aload_n 0, 1) := zk42 (by decide +kernel)
theorem dX7_sets_1 : decode cX7_sets 1 = .ok (.getfield 7, 3) := zk180 0 7 (by decide +kernel)
theorem dX7_sets_4 : decode cX7_sets 4 = .ok (.bipush 11, 2) := zk16 11 rfl (by decide +kernel)
theorem dX7_sets_6 : decode cX7_sets 6 = .ok (.iconst 4, 1) := zk7 (by decide +kernel)
theorem dX7_sets_7 : decode cX7_sets 7 = .ok (.iload_n 1, 1) := zk27 (by decide +kernel)
theorem dX7_sets_8 : decode cX7_sets 8 = .ok (.imul, 1) := zk104 (by decide +kernel)
theorem dX7_sets_9 : decode cX7_sets 9 = .ok (.iadd, 1) := zk96 (by decide +kernel)
theorem dX7_sets_10 : decode cX7_sets 10 = .ok (.iload_n 2, 1) := zk28 (by decide +kernel)
theorem dX7_sets_11 : decode cX7_sets 11 = .ok (.iadd, 1) := zk96 (by decide +kernel)
theorem dX7_sets_12 : decode cX7_sets 12 = .ok (.iload_n 3, 1) := zk29 (by decide +kernel)
theorem dX7_sets_13 : decode cX7_sets 13 = .ok (.iastore, 1) := zk79 (by decide +kernel)
theorem dX7_sets_14 : decode cX7_sets 14 = .ok (.return_, 1) := zk177 (by decide +kernel)
set_option maxRecDepth 20000 in
theorem gw_wsX7_isIn : wsX7_isIn.all goodWord = true := by decide +kernel
set_option maxRecDepth 20000 in
theorem ggX7_isStall_X7_isIn : GoodIn wsX7_isStall wsX7_isIn := goodIn_r _ [5] rfl gw_wsX7_isIn
set_option maxRecDepth 20000 in
theorem gX7_isStall_X7_isIn : GoodIn wsX7_isStall (va_wsS RX7 65 yX7_isIn wsX7_isIn) := goodIn_app (goodIn_r _ [2, 3, 4] rfl (by decide +kernel)) ggX7_isStall_X7_isIn
theorem dX7_isStall_0 : decode cX7_isStall 0 = .ok (.iload_n 1, 1) := zk27 (by decide +kernel)
theorem dX7_isStall_1 : decode cX7_isStall 1 = .ok (.i2l, 1) := zk133 (by decide +kernel)
theorem dX7_isStall_2 : decode cX7_isStall 2 = .ok (.lconst 0, 1) := zk9 (by decide +kernel)
theorem dX7_isStall_3 : decode cX7_isStall 3 = .ok (.aload_n 0, 1) := zk42 (by decide +kernel)
theorem dX7_isStall_4 : decode cX7_isStall 4 = .ok (.getfield 7, 3) := zk180 0 7 (by decide +kernel)
theorem dX7_isStall_7 : decode cX7_isStall 7 = .ok (.iconst 0, 1) := zk3 (by decide +kernel)
theorem dX7_isStall_8 : decode cX7_isStall 8 = .ok (.iaload, 1) := zk46 (by decide +kernel)
theorem dX7_isStall_9 : decode cX7_isStall 9 = .ok (.iconst 1, 1) := zk4 (by decide +kernel)
theorem dX7_isStall_10 : decode cX7_isStall 10 = .ok (.isub, 1) := zk100 (by decide +kernel)
theorem dX7_isStall_11 : decode cX7_isStall 11 = .ok (.i2l, 1) := zk133 (by decide +kernel)
theorem dX7_isStall_12 : decode cX7_isStall 12 = .ok (.invokestatic 65, 3) := zk184 0 65 (by decide +kernel)
theorem dX7_isStall_15 : decode cX7_isStall 15 = .ok (.ireturn, 1) := zk172 (by decide +kernel)
theorem dX7_drawn_0 : decode cX7_drawn 0 = .ok (.aload_n 0, 1) := zk42 (by decide +kernel)
theorem dX7_drawn_1 : decode cX7_drawn 1 = .ok (.getfield 7, 3) := zk180 0 7 (by decide +kernel)
theorem dX7_drawn_4 : decode cX7_drawn 4 = .ok (.bipush 6, 2) := zk16 6 rfl (by decide +kernel)
theorem dX7_drawn_6 : decode cX7_drawn 6 = .ok (.aload_n 0, 1) := zk42 (by decide +kernel)
theorem dX7_drawn_7 : decode cX7_drawn 7 = .ok (.getfield 7, 3) := zk180 0 7 (by decide +kernel)
theorem dX7_drawn_10 : decode cX7_drawn 10 = .ok (.bipush 6, 2) := zk16 6 rfl (by decide +kernel)
theorem dX7_drawn_12 : decode cX7_drawn 12 = .ok (.iaload, 1) := zk46 (by decide +kernel)
theorem dX7_drawn_13 : decode cX7_drawn 13 = .ok (.ldc 69, 2) := zk18 69 (by decide +kernel)
theorem dX7_drawn_15 : decode cX7_drawn 15 = .ok (.imul, 1) := zk104 (by decide +kernel)
theorem dX7_drawn_16 : decode cX7_drawn 16 = .ok (.sipush 12345, 3) := zk17 48 57 rfl (by decide +kernel)
theorem dX7_drawn_19 : decode cX7_drawn 19 = .ok (.iadd, 1) := zk96 (by decide +kernel)
theorem dX7_drawn_20 : decode cX7_drawn 20 = .ok (.iastore, 1) := zk79 (by decide +kernel)
theorem dX7_drawn_21 : decode cX7_drawn 21 = .ok (.aload_n 0, 1) := zk42 (by decide +kernel)
theorem dX7_drawn_22 : decode cX7_drawn 22 = .ok (.getfield 7, 3) := zk180 0 7 (by decide +kernel)
theorem dX7_drawn_25 : decode cX7_drawn 25 = .ok (.bipush 6, 2) := zk16 6 rfl (by decide +kernel)
theorem dX7_drawn_27 : decode cX7_drawn 27 = .ok (.iaload, 1) := zk46 (by decide +kernel)
theorem dX7_drawn_28 : decode cX7_drawn 28 = .ok (.bipush 8, 2) := zk16 8 rfl (by decide +kernel)
theorem dX7_drawn_30 : decode cX7_drawn 30 = .ok (.iushr, 1) := zk124 (by decide +kernel)
theorem dX7_drawn_31 : decode cX7_drawn 31 = .ok (.ireturn, 1) := zk172 (by decide +kernel)
theorem dX7_shadeFrom_0 : decode cX7_shadeFrom 0 = .ok (.aload_n 0, 1) := zk42 (by decide +kernel)
theorem dX7_shadeFrom_1 : decode cX7_shadeFrom 1 = .ok (.getfield 7, 3) := zk180 0 7 (by decide +kernel)
theorem dX7_shadeFrom_4 : decode cX7_shadeFrom 4 = .ok (.bipush 7, 2) := zk16 7 rfl (by decide +kernel)
theorem dX7_shadeFrom_6 : decode cX7_shadeFrom 6 = .ok (.iaload, 1) := zk46 (by decide +kernel)
theorem dX7_shadeFrom_7 : decode cX7_shadeFrom 7 = .ok (.aload_n 0, 1) := zk42 (by decide +kernel)
theorem dX7_shadeFrom_8 : decode cX7_shadeFrom 8 = .ok (.getfield 7, 3) := zk180 0 7 (by decide +kernel)
theorem dX7_shadeFrom_11 : decode cX7_shadeFrom 11 = .ok (.iconst 2, 1) := zk5 (by decide +kernel)
theorem dX7_shadeFrom_12 : decode cX7_shadeFrom 12 = .ok (.iaload, 1) := zk46 (by decide +kernel)
theorem dX7_shadeFrom_13 : decode cX7_shadeFrom 13 = .ok (.bipush 10, 2) := zk16 10 rfl (by decide +kernel)
theorem dX7_shadeFrom_15 : decode cX7_shadeFrom 15 = .ok (.irem, 1) := zk112 (by decide +kernel)
theorem dX7_shadeFrom_16 : decode cX7_shadeFrom 16 = .ok (.iconst 5, 1) := zk8 (by decide +kernel)
theorem dX7_shadeFrom_17 : decode cX7_shadeFrom 17 = .ok (.isub, 1) := zk100 (by decide +kernel)
theorem dX7_shadeFrom_18 : decode cX7_shadeFrom 18 = .ok (.iconst 2, 1) := zk5 (by decide +kernel)
theorem dX7_shadeFrom_19 : decode cX7_shadeFrom 19 = .ok (.idiv, 1) := zk108 (by decide +kernel)
theorem dX7_shadeFrom_20 : decode cX7_shadeFrom 20 = .ok (.iadd, 1) := zk96 (by decide +kernel)
theorem dX7_shadeFrom_21 : decode cX7_shadeFrom 21 = .ok (.ireturn, 1) := zk172 (by decide +kernel)
set_option maxRecDepth 20000 in
theorem gw_wsX7_of : wsX7_of.all goodWord = true := by decide +kernel
set_option maxRecDepth 20000 in
theorem ggX7_isShaded_X7_of : GoodIn wsX7_isShaded wsX7_of := goodIn_r _ [6, 1, 14, 15, 16, 17, 18, 19, 20, 21, 22, 23, 24, 25, 26, 27, 28, 29, 30, 31, 32, 33, 34, 35, 36, 37, 38, 39, 40, 41, 42, 43, 44] rfl gw_wsX7_of
set_option maxRecDepth 20000 in
theorem gX7_isShaded_X7_of : GoodIn wsX7_isShaded (wsV RX7 85 RX7 yX7_of wsX7_of) := goodIn_app (goodIn_r _ [2, 3, 4, 5] rfl (by decide +kernel)) ggX7_isShaded_X7_of
set_option maxRecDepth 20000 in
theorem gw_wsX7_shadeFrom : wsX7_shadeFrom.all goodWord = true := by decide +kernel
set_option maxRecDepth 20000 in
theorem ggX7_isShaded_X7_shadeFrom : GoodIn wsX7_isShaded wsX7_shadeFrom := goodIn_r _ [10, 1, 14, 15, 16, 17, 18, 19, 20, 21, 22, 23, 24, 25, 26, 27, 28, 29, 30, 31, 32, 33, 34, 35, 36, 37, 38, 39, 40, 41, 42, 43, 44] rfl gw_wsX7_shadeFrom
set_option maxRecDepth 20000 in
theorem gX7_isShaded_X7_shadeFrom : GoodIn wsX7_isShaded (wsV RX7 89 RX7 yX7_shadeFrom wsX7_shadeFrom) := goodIn_app (goodIn_r _ [7, 8, 9, 5] rfl (by decide +kernel)) ggX7_isShaded_X7_shadeFrom
set_option maxRecDepth 20000 in
theorem ggX7_isShaded_X7_isIn : GoodIn wsX7_isShaded wsX7_isIn := goodIn_r _ [13] rfl gw_wsX7_isIn
set_option maxRecDepth 20000 in
theorem gX7_isShaded_X7_isIn : GoodIn wsX7_isShaded (va_wsS RX7 65 yX7_isIn wsX7_isIn) := goodIn_app (goodIn_r _ [11, 12, 5] rfl (by decide +kernel)) ggX7_isShaded_X7_isIn
theorem dX7_isShaded_0 : decode cX7_isShaded 0 = .ok (.aload_n 0, 1) := zk42 (by decide +kernel)
theorem dX7_isShaded_1 : decode cX7_isShaded 1 = .ok (.iload_n 1, 1) := zk27 (by decide +kernel)
theorem dX7_isShaded_2 : decode cX7_isShaded 2 = .ok (.iconst 1, 1) := zk4 (by decide +kernel)
theorem dX7_isShaded_3 : decode cX7_isShaded 3 = .ok (.invokevirtual 85, 3) := zk182 0 85 (by decide +kernel)
theorem dX7_isShaded_6 : decode cX7_isShaded 6 = .ok (.i2l, 1) := zk133 (by decide +kernel)
theorem dX7_isShaded_7 : decode cX7_isShaded 7 = .ok (.aload_n 0, 1) := zk42 (by decide +kernel)
theorem dX7_isShaded_8 : decode cX7_isShaded 8 = .ok (.invokevirtual 89, 3) := zk182 0 89 (by decide +kernel)
theorem dX7_isShaded_11 : decode cX7_isShaded 11 = .ok (.i2l, 1) := zk133 (by decide +kernel)
theorem dX7_isShaded_12 : decode cX7_isShaded 12 = .ok (.aload_n 0, 1) := zk42 (by decide +kernel)
theorem dX7_isShaded_13 : decode cX7_isShaded 13 = .ok (.invokevirtual 89, 3) := zk182 0 89 (by decide +kernel)
theorem dX7_isShaded_16 : decode cX7_isShaded 16 = .ok (.aload_n 0, 1) := zk42 (by decide +kernel)
theorem dX7_isShaded_17 : decode cX7_isShaded 17 = .ok (.getfield 7, 3) := zk180 0 7 (by decide +kernel)
theorem dX7_isShaded_20 : decode cX7_isShaded 20 = .ok (.bipush 8, 2) := zk16 8 rfl (by decide +kernel)
theorem dX7_isShaded_22 : decode cX7_isShaded 22 = .ok (.iaload, 1) := zk46 (by decide +kernel)
theorem dX7_isShaded_23 : decode cX7_isShaded 23 = .ok (.iadd, 1) := zk96 (by decide +kernel)
theorem dX7_isShaded_24 : decode cX7_isShaded 24 = .ok (.iconst 1, 1) := zk4 (by decide +kernel)
theorem dX7_isShaded_25 : decode cX7_isShaded 25 = .ok (.isub, 1) := zk100 (by decide +kernel)
theorem dX7_isShaded_26 : decode cX7_isShaded 26 = .ok (.i2l, 1) := zk133 (by decide +kernel)
theorem dX7_isShaded_27 : decode cX7_isShaded 27 = .ok (.invokestatic 65, 3) := zk184 0 65 (by decide +kernel)
theorem dX7_isShaded_30 : decode cX7_isShaded 30 = .ok (.ireturn, 1) := zk172 (by decide +kernel)
set_option maxRecDepth 20000 in
theorem gw_wsX7_off : wsX7_off.all goodWord = true := by decide +kernel
set_option maxRecDepth 20000 in
theorem ggX7_heat_X7_off : GoodIn wsX7_heat wsX7_off := goodIn_r _ [5] rfl gw_wsX7_off
set_option maxRecDepth 20000 in
theorem gX7_heat_X7_off : GoodIn wsX7_heat (va_wsS RX7 93 yX7_off wsX7_off) := goodIn_app (goodIn_r _ [2, 3, 4] rfl (by decide +kernel)) ggX7_heat_X7_off
theorem dX7_heat_0 : decode cX7_heat 0 = .ok (.bipush 45, 2) := zk16 45 rfl (by decide +kernel)
theorem dX7_heat_2 : decode cX7_heat 2 = .ok (.iconst 5, 1) := zk8 (by decide +kernel)
theorem dX7_heat_3 : decode cX7_heat 3 = .ok (.aload_n 0, 1) := zk42 (by decide +kernel)
theorem dX7_heat_4 : decode cX7_heat 4 = .ok (.getfield 7, 3) := zk180 0 7 (by decide +kernel)
theorem dX7_heat_7 : decode cX7_heat 7 = .ok (.iconst 2, 1) := zk5 (by decide +kernel)
theorem dX7_heat_8 : decode cX7_heat 8 = .ok (.iaload, 1) := zk46 (by decide +kernel)
theorem dX7_heat_9 : decode cX7_heat 9 = .ok (.bipush 10, 2) := zk16 10 rfl (by decide +kernel)
theorem dX7_heat_11 : decode cX7_heat 11 = .ok (.irem, 1) := zk112 (by decide +kernel)
theorem dX7_heat_12 : decode cX7_heat 12 = .ok (.iconst 5, 1) := zk8 (by decide +kernel)
theorem dX7_heat_13 : decode cX7_heat 13 = .ok (.invokestatic 93, 3) := zk184 0 93 (by decide +kernel)
theorem dX7_heat_16 : decode cX7_heat 16 = .ok (.imul, 1) := zk104 (by decide +kernel)
theorem dX7_heat_17 : decode cX7_heat 17 = .ok (.isub, 1) := zk100 (by decide +kernel)
theorem dX7_heat_18 : decode cX7_heat 18 = .ok (.ireturn, 1) := zk172 (by decide +kernel)
set_option maxRecDepth 20000 in
theorem gw_wsX7_counts : wsX7_counts.all goodWord = true := by decide +kernel
def bs_wsX7_melts : List (List Cond) := [[.code yX7_melts cX7_melts 3 (some .int)], wsX7_melts_r1, wsX7_melts_r2, wsX70]
theorem bse_wsX7_melts : wsX7_melts = bs_wsX7_melts.flatten := by
  unfold wsX7_melts bs_wsX7_melts
  simp only [List.flatten_cons, List.flatten_nil, List.append_nil, List.append_assoc, List.cons_append, List.nil_append]
set_option maxRecDepth 20000 in
theorem ggX7_melts_X7_counts : GoodIn wsX7_melts wsX7_counts := goodIn_pc bs_wsX7_melts bse_wsX7_melts _ [(1, [5, 6, 7, 8, 9, 4, 10]), (3, [0, 1, 2, 3, 4, 5, 6, 7, 8, 9, 10, 11, 12, 13, 14, 15, 16, 17, 18, 19, 20, 21, 22, 23, 24, 25, 26, 27, 28, 29, 30])] rfl gw_wsX7_counts
set_option maxRecDepth 20000 in
theorem gX7_melts_X7_counts : GoodIn wsX7_melts (wsV RX7 96 RX7 yX7_counts wsX7_counts) := goodIn_app (goodIn_pc bs_wsX7_melts bse_wsX7_melts _ [(1, [1, 2, 3, 4])] rfl (by decide +kernel)) ggX7_melts_X7_counts
set_option maxRecDepth 20000 in
theorem gw_wsX7_heat : wsX7_heat.all goodWord = true := by decide +kernel
set_option maxRecDepth 20000 in
theorem ggX7_melts_X7_heat : GoodIn wsX7_melts wsX7_heat := goodIn_pc bs_wsX7_melts bse_wsX7_melts _ [(1, [14, 6, 15, 16, 4, 17]), (3, [0, 1, 2, 3, 4, 5, 6, 7, 8, 9, 10, 11, 12, 13, 14, 15, 16, 17, 18, 19, 20, 21, 22, 23, 24, 25, 26, 27, 28, 29, 30])] rfl gw_wsX7_heat
set_option maxRecDepth 20000 in
theorem gX7_melts_X7_heat : GoodIn wsX7_melts (wsV RX7 100 RX7 yX7_heat wsX7_heat) := goodIn_app (goodIn_pc bs_wsX7_melts bse_wsX7_melts _ [(1, [11, 12, 13, 4])] rfl (by decide +kernel)) ggX7_melts_X7_heat
set_option maxRecDepth 20000 in
theorem ggX7_melts_X7_of : GoodIn wsX7_melts wsX7_of := goodIn_pc bs_wsX7_melts bse_wsX7_melts _ [(1, [21, 6]), (3, [0, 1, 2, 3, 4, 5, 6, 7, 8, 9, 10, 11, 12, 13, 14, 15, 16, 17, 18, 19, 20, 21, 22, 23, 24, 25, 26, 27, 28, 29, 30])] rfl gw_wsX7_of
set_option maxRecDepth 20000 in
theorem gX7_melts_X7_of : GoodIn wsX7_melts (wsV RX7 85 RX7 yX7_of wsX7_of) := goodIn_app (goodIn_pc bs_wsX7_melts bse_wsX7_melts _ [(1, [18, 19, 20, 4])] rfl (by decide +kernel)) ggX7_melts_X7_of
set_option maxRecDepth 20000 in
theorem gw_wsX7_worked : wsX7_worked.all goodWord = true := by decide +kernel
set_option maxRecDepth 20000 in
theorem ggX7_melts_X7_worked : GoodIn wsX7_melts wsX7_worked := goodIn_pc bs_wsX7_melts bse_wsX7_melts _ [(2, [1]), (1, [6]), (2, [2]), (1, [0, 7, 8, 9, 4, 10]), (2, [3, 4, 5]), (3, [0, 1, 2, 3, 4, 5, 6, 7, 8, 9, 10, 11, 12, 13, 14, 15, 16, 17, 18, 19, 20, 21, 22, 23, 24, 25, 26, 27, 28, 29, 30])] rfl gw_wsX7_worked
set_option maxRecDepth 20000 in
theorem gX7_melts_X7_worked : GoodIn wsX7_melts (wsV RX7 103 RX7 yX7_worked wsX7_worked) := goodIn_app (goodIn_pc bs_wsX7_melts bse_wsX7_melts _ [(1, [22, 23]), (2, [0]), (1, [4])] rfl (by decide +kernel)) ggX7_melts_X7_worked
set_option maxRecDepth 20000 in
theorem gw_wsX7_within : wsX7_within.all goodWord = true := by decide +kernel
set_option maxRecDepth 20000 in
theorem ggX7_melts_X7_within : GoodIn wsX7_melts wsX7_within := goodIn_pc bs_wsX7_melts bse_wsX7_melts _ [(2, [8])] rfl gw_wsX7_within
set_option maxRecDepth 20000 in
theorem gX7_melts_X7_within : GoodIn wsX7_melts (va_wsS RX7 106 yX7_within wsX7_within) := goodIn_app (goodIn_pc bs_wsX7_melts bse_wsX7_melts _ [(2, [6, 7]), (1, [4])] rfl (by decide +kernel)) ggX7_melts_X7_within
theorem dX7_melts_0 : decode cX7_melts 0 = .ok (.aload_n 0, 1) := zk42 (by decide +kernel)
theorem dX7_melts_1 : decode cX7_melts 1 = .ok (.iconst 0, 1) := zk3 (by decide +kernel)
theorem dX7_melts_2 : decode cX7_melts 2 = .ok (.invokevirtual 96, 3) := zk182 0 96 (by decide +kernel)
theorem dX7_melts_5 : decode cX7_melts 5 = .ok (.istore_n 2, 1) := zk61 (by decide +kernel)
theorem dX7_melts_6 : decode cX7_melts 6 = .ok (.iload_n 2, 1) := zk28 (by decide +kernel)
theorem dX7_melts_7 : decode cX7_melts 7 = .ok (.ifCond .ge 10, 3) := zk156 0 10 rfl (by decide +kernel)
theorem dX7_melts_10 : decode cX7_melts 10 = .ok (.aload_n 0, 1) := zk42 (by decide +kernel)
theorem dX7_melts_11 : decode cX7_melts 11 = .ok (.invokevirtual 100, 3) := zk182 0 100 (by decide +kernel)
theorem dX7_melts_14 : decode cX7_melts 14 = .ok (.iconst 5, 1) := zk8 (by decide +kernel)
theorem dX7_melts_15 : decode cX7_melts 15 = .ok (.idiv, 1) := zk108 (by decide +kernel)
theorem dX7_melts_16 : decode cX7_melts 16 = .ok (.ireturn, 1) := zk172 (by decide +kernel)
theorem dX7_melts_17 : decode cX7_melts 17 = .ok (.aload_n 0, 1) := zk42 (by decide +kernel)
theorem dX7_melts_18 : decode cX7_melts 18 = .ok (.getfield 49, 3) := zk180 0 49 (by decide +kernel)
theorem dX7_melts_21 : decode cX7_melts 21 = .ok (.bipush 104, 2) := zk16 104 rfl (by decide +kernel)
theorem dX7_melts_23 : decode cX7_melts 23 = .ok (.aload_n 0, 1) := zk42 (by decide +kernel)
theorem dX7_melts_24 : decode cX7_melts 24 = .ok (.invokevirtual 100, 3) := zk182 0 100 (by decide +kernel)
theorem dX7_melts_27 : decode cX7_melts 27 = .ok (.iastore, 1) := zk79 (by decide +kernel)
theorem dX7_melts_28 : decode cX7_melts 28 = .ok (.aload_n 0, 1) := zk42 (by decide +kernel)
theorem dX7_melts_29 : decode cX7_melts 29 = .ok (.getfield 49, 3) := zk180 0 49 (by decide +kernel)
theorem dX7_melts_32 : decode cX7_melts 32 = .ok (.bipush 103, 2) := zk16 103 rfl (by decide +kernel)
theorem dX7_melts_34 : decode cX7_melts 34 = .ok (.aload_n 0, 1) := zk42 (by decide +kernel)
theorem dX7_melts_35 : decode cX7_melts 35 = .ok (.iload_n 1, 1) := zk27 (by decide +kernel)
theorem dX7_melts_36 : decode cX7_melts 36 = .ok (.iconst 2, 1) := zk5 (by decide +kernel)
theorem dX7_melts_37 : decode cX7_melts 37 = .ok (.invokevirtual 85, 3) := zk182 0 85 (by decide +kernel)
theorem dX7_melts_40 : decode cX7_melts 40 = .ok (.iastore, 1) := zk79 (by decide +kernel)
theorem dX7_melts_41 : decode cX7_melts 41 = .ok (.aload_n 0, 1) := zk42 (by decide +kernel)
theorem dX7_melts_42 : decode cX7_melts 42 = .ok (.getfield 49, 3) := zk180 0 49 (by decide +kernel)
theorem dX7_melts_45 : decode cX7_melts 45 = .ok (.bipush 112, 2) := zk16 112 rfl (by decide +kernel)
theorem dX7_melts_47 : decode cX7_melts 47 = .ok (.aload_n 0, 1) := zk42 (by decide +kernel)
theorem dX7_melts_48 : decode cX7_melts 48 = .ok (.iload_n 1, 1) := zk27 (by decide +kernel)
theorem dX7_melts_49 : decode cX7_melts 49 = .ok (.iconst 3, 1) := zk6 (by decide +kernel)
theorem dX7_melts_50 : decode cX7_melts 50 = .ok (.invokevirtual 85, 3) := zk182 0 85 (by decide +kernel)
theorem dX7_melts_53 : decode cX7_melts 53 = .ok (.iastore, 1) := zk79 (by decide +kernel)
theorem dX7_melts_54 : decode cX7_melts 54 = .ok (.aload_n 0, 1) := zk42 (by decide +kernel)
theorem dX7_melts_55 : decode cX7_melts 55 = .ok (.iload_n 2, 1) := zk28 (by decide +kernel)
theorem dX7_melts_56 : decode cX7_melts 56 = .ok (.invokevirtual 103, 3) := zk182 0 103 (by decide +kernel)
theorem dX7_melts_59 : decode cX7_melts 59 = .ok (.aload_n 0, 1) := zk42 (by decide +kernel)
theorem dX7_melts_60 : decode cX7_melts 60 = .ok (.iload_n 1, 1) := zk27 (by decide +kernel)
theorem dX7_melts_61 : decode cX7_melts 61 = .ok (.iconst 2, 1) := zk5 (by decide +kernel)
theorem dX7_melts_62 : decode cX7_melts 62 = .ok (.invokevirtual 85, 3) := zk182 0 85 (by decide +kernel)
theorem dX7_melts_65 : decode cX7_melts 65 = .ok (.invokestatic 106, 3) := zk184 0 106 (by decide +kernel)
theorem dX7_melts_68 : decode cX7_melts 68 = .ok (.ireturn, 1) := zk172 (by decide +kernel)
set_option maxRecDepth 20000 in
theorem gw_wsX7_isShaded : wsX7_isShaded.all goodWord = true := by decide +kernel
def bs_wsX7_spoils : List (List Cond) := [[.code yX7_spoils cX7_spoils 3 (some .int)], wsX7_spoils_r1, wsX7_spoils_r2, wsX70]
theorem bse_wsX7_spoils : wsX7_spoils = bs_wsX7_spoils.flatten := by
  unfold wsX7_spoils bs_wsX7_spoils
  simp only [List.flatten_cons, List.flatten_nil, List.append_nil, List.append_assoc, List.cons_append, List.nil_append]
set_option maxRecDepth 20000 in
theorem ggX7_spoils_X7_isShaded : GoodIn wsX7_spoils wsX7_isShaded := goodIn_pc bs_wsX7_spoils bse_wsX7_spoils _ [(1, [4, 5, 6, 7, 8, 3, 9, 10, 11, 12, 13, 14, 15, 16]), (3, [0, 1, 2, 3, 4, 5, 6, 7, 8, 9, 10, 11, 12, 13, 14, 15, 16, 17, 18, 19, 20, 21, 22, 23, 24, 25, 26, 27, 28, 29, 30])] rfl gw_wsX7_isShaded
set_option maxRecDepth 20000 in
theorem gX7_spoils_X7_isShaded : GoodIn wsX7_spoils (wsV RX7 109 RX7 yX7_isShaded wsX7_isShaded) := goodIn_app (goodIn_pc bs_wsX7_spoils bse_wsX7_spoils _ [(1, [0, 1, 2, 3])] rfl (by decide +kernel)) ggX7_spoils_X7_isShaded
set_option maxRecDepth 20000 in
theorem ggX7_spoils_X7_of : GoodIn wsX7_spoils wsX7_of := goodIn_pc bs_wsX7_spoils bse_wsX7_spoils _ [(1, [9, 5]), (3, [0, 1, 2, 3, 4, 5, 6, 7, 8, 9, 10, 11, 12, 13, 14, 15, 16, 17, 18, 19, 20, 21, 22, 23, 24, 25, 26, 27, 28, 29, 30])] rfl gw_wsX7_of
set_option maxRecDepth 20000 in
theorem gX7_spoils_X7_of : GoodIn wsX7_spoils (wsV RX7 85 RX7 yX7_of wsX7_of) := goodIn_app (goodIn_pc bs_wsX7_spoils bse_wsX7_spoils _ [(1, [6, 7, 8, 3])] rfl (by decide +kernel)) ggX7_spoils_X7_of
set_option maxRecDepth 20000 in
theorem gw_wsX7_melts : wsX7_melts.all goodWord = true := by decide +kernel
set_option maxRecDepth 20000 in
theorem ggX7_spoils_X7_melts : GoodIn wsX7_spoils wsX7_melts := goodIn_pc bs_wsX7_spoils bse_wsX7_spoils _ [(1, [20, 21, 22, 23]), (2, [0]), (1, [3]), (2, [1]), (1, [5]), (2, [2, 3, 4, 5, 6, 7, 8, 9, 10, 11, 12]), (1, [6, 7, 8, 9]), (2, [13, 14, 15, 16, 17, 18, 19, 20, 21, 22, 23]), (3, [0, 1, 2, 3, 4, 5, 6, 7, 8, 9, 10, 11, 12, 13, 14, 15, 16, 17, 18, 19, 20, 21, 22, 23, 24, 25, 26, 27, 28, 29, 30])] rfl gw_wsX7_melts
set_option maxRecDepth 20000 in
theorem gX7_spoils_X7_melts : GoodIn wsX7_spoils (wsV RX7 113 RX7 yX7_melts wsX7_melts) := goodIn_app (goodIn_pc bs_wsX7_spoils bse_wsX7_spoils _ [(1, [17, 18, 19, 3])] rfl (by decide +kernel)) ggX7_spoils_X7_melts
theorem dX7_spoils_0 : decode cX7_spoils 0 = .ok (.iconst 0, 1) := zk3 (by decide +kernel)
theorem dX7_spoils_1 : decode cX7_spoils 1 = .ok (.istore_n 2, 1) := zk61 (by decide +kernel)
theorem dX7_spoils_2 : decode cX7_spoils 2 = .ok (.aload_n 0, 1) := zk42 (by decide +kernel)
theorem dX7_spoils_3 : decode cX7_spoils 3 = .ok (.iload_n 1, 1) := zk27 (by decide +kernel)
theorem dX7_spoils_4 : decode cX7_spoils 4 = .ok (.invokevirtual 109, 3) := zk182 0 109 (by decide +kernel)
theorem dX7_spoils_7 : decode cX7_spoils 7 = .ok (.ifCond .eq 22, 3) := zk153 0 22 rfl (by decide +kernel)
theorem dX7_spoils_10 : decode cX7_spoils 10 = .ok (.aload_n 0, 1) := zk42 (by decide +kernel)
theorem dX7_spoils_11 : decode cX7_spoils 11 = .ok (.iload_n 1, 1) := zk27 (by decide +kernel)
theorem dX7_spoils_12 : decode cX7_spoils 12 = .ok (.iconst 0, 1) := zk3 (by decide +kernel)
theorem dX7_spoils_13 : decode cX7_spoils 13 = .ok (.invokevirtual 85, 3) := zk182 0 85 (by decide +kernel)
theorem dX7_spoils_16 : decode cX7_spoils 16 = .ok (.iconst 4, 1) := zk7 (by decide +kernel)
theorem dX7_spoils_17 : decode cX7_spoils 17 = .ok (.if_icmp .ne 7, 3) := zk160 0 7 rfl (by decide +kernel)
theorem dX7_spoils_20 : decode cX7_spoils 20 = .ok (.iconst 2, 1) := zk5 (by decide +kernel)
theorem dX7_spoils_21 : decode cX7_spoils 21 = .ok (.goto 4, 3) := zk167 0 4 rfl (by decide +kernel)
theorem dX7_spoils_24 : decode cX7_spoils 24 = .ok (.iconst 0, 1) := zk3 (by decide +kernel)
theorem dX7_spoils_25 : decode cX7_spoils 25 = .ok (.istore_n 2, 1) := zk61 (by decide +kernel)
theorem dX7_spoils_26 : decode cX7_spoils 26 = .ok (.goto 83, 3) := zk167 0 83 rfl (by decide +kernel)
theorem dX7_spoils_29 : decode cX7_spoils 29 = .ok (.aload_n 0, 1) := zk42 (by decide +kernel)
theorem dX7_spoils_30 : decode cX7_spoils 30 = .ok (.iload_n 1, 1) := zk27 (by decide +kernel)
theorem dX7_spoils_31 : decode cX7_spoils 31 = .ok (.iconst 0, 1) := zk3 (by decide +kernel)
theorem dX7_spoils_32 : decode cX7_spoils 32 = .ok (.invokevirtual 85, 3) := zk182 0 85 (by decide +kernel)
theorem dX7_spoils_35 : decode cX7_spoils 35 = .ok (.ifCond .ne 12, 3) := zk154 0 12 rfl (by decide +kernel)
theorem dX7_spoils_38 : decode cX7_spoils 38 = .ok (.aload_n 0, 1) := zk42 (by decide +kernel)
theorem dX7_spoils_39 : decode cX7_spoils 39 = .ok (.iload_n 1, 1) := zk27 (by decide +kernel)
theorem dX7_spoils_40 : decode cX7_spoils 40 = .ok (.invokevirtual 113, 3) := zk182 0 113 (by decide +kernel)
theorem dX7_spoils_43 : decode cX7_spoils 43 = .ok (.istore_n 2, 1) := zk61 (by decide +kernel)
theorem dX7_spoils_44 : decode cX7_spoils 44 = .ok (.goto 65, 3) := zk167 0 65 rfl (by decide +kernel)
theorem dX7_spoils_47 : decode cX7_spoils 47 = .ok (.aload_n 0, 1) := zk42 (by decide +kernel)
theorem dX7_spoils_48 : decode cX7_spoils 48 = .ok (.iload_n 1, 1) := zk27 (by decide +kernel)
theorem dX7_spoils_49 : decode cX7_spoils 49 = .ok (.iconst 0, 1) := zk3 (by decide +kernel)
theorem dX7_spoils_50 : decode cX7_spoils 50 = .ok (.invokevirtual 85, 3) := zk182 0 85 (by decide +kernel)
theorem dX7_spoils_53 : decode cX7_spoils 53 = .ok (.iconst 1, 1) := zk4 (by decide +kernel)
theorem dX7_spoils_54 : decode cX7_spoils 54 = .ok (.if_icmp .ne 14, 3) := zk160 0 14 rfl (by decide +kernel)
theorem dX7_spoils_57 : decode cX7_spoils 57 = .ok (.iconst 2, 1) := zk5 (by decide +kernel)
theorem dX7_spoils_58 : decode cX7_spoils 58 = .ok (.aload_n 0, 1) := zk42 (by decide +kernel)
theorem dX7_spoils_59 : decode cX7_spoils 59 = .ok (.iload_n 1, 1) := zk27 (by decide +kernel)
theorem dX7_spoils_60 : decode cX7_spoils 60 = .ok (.invokevirtual 113, 3) := zk182 0 113 (by decide +kernel)
theorem dX7_spoils_63 : decode cX7_spoils 63 = .ok (.imul, 1) := zk104 (by decide +kernel)
theorem dX7_spoils_64 : decode cX7_spoils 64 = .ok (.istore_n 2, 1) := zk61 (by decide +kernel)
theorem dX7_spoils_65 : decode cX7_spoils 65 = .ok (.goto 44, 3) := zk167 0 44 rfl (by decide +kernel)
theorem dX7_spoils_68 : decode cX7_spoils 68 = .ok (.aload_n 0, 1) := zk42 (by decide +kernel)
theorem dX7_spoils_69 : decode cX7_spoils 69 = .ok (.iload_n 1, 1) := zk27 (by decide +kernel)
theorem dX7_spoils_70 : decode cX7_spoils 70 = .ok (.iconst 0, 1) := zk3 (by decide +kernel)
theorem dX7_spoils_71 : decode cX7_spoils 71 = .ok (.invokevirtual 85, 3) := zk182 0 85 (by decide +kernel)
theorem dX7_spoils_74 : decode cX7_spoils 74 = .ok (.iconst 3, 1) := zk6 (by decide +kernel)
theorem dX7_spoils_75 : decode cX7_spoils 75 = .ok (.if_icmp .ne 16, 3) := zk160 0 16 rfl (by decide +kernel)
theorem dX7_spoils_78 : decode cX7_spoils 78 = .ok (.iconst 2, 1) := zk5 (by decide +kernel)
theorem dX7_spoils_79 : decode cX7_spoils 79 = .ok (.aload_n 0, 1) := zk42 (by decide +kernel)
theorem dX7_spoils_80 : decode cX7_spoils 80 = .ok (.iload_n 1, 1) := zk27 (by decide +kernel)
theorem dX7_spoils_81 : decode cX7_spoils 81 = .ok (.invokevirtual 113, 3) := zk182 0 113 (by decide +kernel)
theorem dX7_spoils_84 : decode cX7_spoils 84 = .ok (.imul, 1) := zk104 (by decide +kernel)
theorem dX7_spoils_85 : decode cX7_spoils 85 = .ok (.iconst 5, 1) := zk8 (by decide +kernel)
theorem dX7_spoils_86 : decode cX7_spoils 86 = .ok (.iadd, 1) := zk96 (by decide +kernel)
theorem dX7_spoils_87 : decode cX7_spoils 87 = .ok (.istore_n 2, 1) := zk61 (by decide +kernel)
theorem dX7_spoils_88 : decode cX7_spoils 88 = .ok (.goto 21, 3) := zk167 0 21 rfl (by decide +kernel)
theorem dX7_spoils_91 : decode cX7_spoils 91 = .ok (.aload_n 0, 1) := zk42 (by decide +kernel)
theorem dX7_spoils_92 : decode cX7_spoils 92 = .ok (.iload_n 1, 1) := zk27 (by decide +kernel)
theorem dX7_spoils_93 : decode cX7_spoils 93 = .ok (.iconst 0, 1) := zk3 (by decide +kernel)
theorem dX7_spoils_94 : decode cX7_spoils 94 = .ok (.invokevirtual 85, 3) := zk182 0 85 (by decide +kernel)
theorem dX7_spoils_97 : decode cX7_spoils 97 = .ok (.iconst 5, 1) := zk8 (by decide +kernel)
theorem dX7_spoils_98 : decode cX7_spoils 98 = .ok (.if_icmp .ne 11, 3) := zk160 0 11 rfl (by decide +kernel)
theorem dX7_spoils_101 : decode cX7_spoils 101 = .ok (.aload_n 0, 1) := zk42 (by decide +kernel)
theorem dX7_spoils_102 : decode cX7_spoils 102 = .ok (.iload_n 1, 1) := zk27 (by decide +kernel)
theorem dX7_spoils_103 : decode cX7_spoils 103 = .ok (.invokevirtual 113, 3) := zk182 0 113 (by decide +kernel)
theorem dX7_spoils_106 : decode cX7_spoils 106 = .ok (.iconst 2, 1) := zk5 (by decide +kernel)
theorem dX7_spoils_107 : decode cX7_spoils 107 = .ok (.idiv, 1) := zk108 (by decide +kernel)
theorem dX7_spoils_108 : decode cX7_spoils 108 = .ok (.istore_n 2, 1) := zk61 (by decide +kernel)
theorem dX7_spoils_109 : decode cX7_spoils 109 = .ok (.iload_n 2, 1) := zk28 (by decide +kernel)
theorem dX7_spoils_110 : decode cX7_spoils 110 = .ok (.aload_n 0, 1) := zk42 (by decide +kernel)
theorem dX7_spoils_111 : decode cX7_spoils 111 = .ok (.iload_n 1, 1) := zk27 (by decide +kernel)
theorem dX7_spoils_112 : decode cX7_spoils 112 = .ok (.iconst 2, 1) := zk5 (by decide +kernel)
theorem dX7_spoils_113 : decode cX7_spoils 113 = .ok (.invokevirtual 85, 3) := zk182 0 85 (by decide +kernel)
theorem dX7_spoils_116 : decode cX7_spoils 116 = .ok (.if_icmp .le 12, 3) := zk164 0 12 rfl (by decide +kernel)
theorem dX7_spoils_119 : decode cX7_spoils 119 = .ok (.aload_n 0, 1) := zk42 (by decide +kernel)
theorem dX7_spoils_120 : decode cX7_spoils 120 = .ok (.iload_n 1, 1) := zk27 (by decide +kernel)
theorem dX7_spoils_121 : decode cX7_spoils 121 = .ok (.iconst 2, 1) := zk5 (by decide +kernel)
theorem dX7_spoils_122 : decode cX7_spoils 122 = .ok (.invokevirtual 85, 3) := zk182 0 85 (by decide +kernel)
theorem dX7_spoils_125 : decode cX7_spoils 125 = .ok (.goto 4, 3) := zk167 0 4 rfl (by decide +kernel)
theorem dX7_spoils_128 : decode cX7_spoils 128 = .ok (.iload_n 2, 1) := zk28 (by decide +kernel)
theorem dX7_spoils_129 : decode cX7_spoils 129 = .ok (.ireturn, 1) := zk172 (by decide +kernel)
theorem dX7_isOf_0 : decode cX7_isOf 0 = .ok (.iload_n 0, 1) := zk26 (by decide +kernel)
theorem dX7_isOf_1 : decode cX7_isOf 1 = .ok (.iload_n 1, 1) := zk27 (by decide +kernel)
theorem dX7_isOf_2 : decode cX7_isOf 2 = .ok (.if_icmp .eq 27, 3) := zk159 0 27 rfl (by decide +kernel)
theorem dX7_isOf_5 : decode cX7_isOf 5 = .ok (.iload_n 1, 1) := zk27 (by decide +kernel)
theorem dX7_isOf_6 : decode cX7_isOf 6 = .ok (.ifCond .eq 23, 3) := zk153 0 23 rfl (by decide +kernel)
theorem dX7_isOf_9 : decode cX7_isOf 9 = .ok (.iload_n 1, 1) := zk27 (by decide +kernel)
theorem dX7_isOf_10 : decode cX7_isOf 10 = .ok (.iconst 1, 1) := zk4 (by decide +kernel)
theorem dX7_isOf_11 : decode cX7_isOf 11 = .ok (.if_icmp .ne 8, 3) := zk160 0 8 rfl (by decide +kernel)
theorem dX7_isOf_14 : decode cX7_isOf 14 = .ok (.iload_n 0, 1) := zk26 (by decide +kernel)
theorem dX7_isOf_15 : decode cX7_isOf 15 = .ok (.iconst 3, 1) := zk6 (by decide +kernel)
theorem dX7_isOf_16 : decode cX7_isOf 16 = .ok (.if_icmp .eq 13, 3) := zk159 0 13 rfl (by decide +kernel)
theorem dX7_isOf_19 : decode cX7_isOf 19 = .ok (.iload_n 1, 1) := zk27 (by decide +kernel)
theorem dX7_isOf_20 : decode cX7_isOf 20 = .ok (.iconst 2, 1) := zk5 (by decide +kernel)
theorem dX7_isOf_21 : decode cX7_isOf 21 = .ok (.if_icmp .ne 12, 3) := zk160 0 12 rfl (by decide +kernel)
theorem dX7_isOf_24 : decode cX7_isOf 24 = .ok (.iload_n 0, 1) := zk26 (by decide +kernel)
theorem dX7_isOf_25 : decode cX7_isOf 25 = .ok (.iconst 4, 1) := zk7 (by decide +kernel)
theorem dX7_isOf_26 : decode cX7_isOf 26 = .ok (.if_icmp .ne 7, 3) := zk160 0 7 rfl (by decide +kernel)
theorem dX7_isOf_29 : decode cX7_isOf 29 = .ok (.iconst 1, 1) := zk4 (by decide +kernel)
theorem dX7_isOf_30 : decode cX7_isOf 30 = .ok (.goto 4, 3) := zk167 0 4 rfl (by decide +kernel)
theorem dX7_isOf_33 : decode cX7_isOf 33 = .ok (.iconst 0, 1) := zk3 (by decide +kernel)
theorem dX7_isOf_34 : decode cX7_isOf 34 = .ok (.ireturn, 1) := zk172 (by decide +kernel)
set_option maxRecDepth 20000 in
theorem gw_wsX7_isStall : wsX7_isStall.all goodWord = true := by decide +kernel
set_option maxRecDepth 20000 in
theorem ggX7_as_X7_isStall : GoodIn wsX7_as wsX7_isStall := goodIn_r _ [8, 9, 10, 11, 7, 12, 20, 21, 22, 23, 24, 25, 26, 27, 28, 29, 30, 31, 32, 33, 34, 35, 36, 37, 38, 39, 40, 41, 42, 43, 44, 45, 46, 47, 48, 49, 50] rfl gw_wsX7_isStall
set_option maxRecDepth 20000 in
theorem gX7_as_X7_isStall : GoodIn wsX7_as (wsV RX7 116 RX7 yX7_isStall wsX7_isStall) := goodIn_app (goodIn_r _ [4, 5, 6, 7] rfl (by decide +kernel)) ggX7_as_X7_isStall
set_option maxRecDepth 20000 in
theorem ggX7_as_X7_isIn : GoodIn wsX7_as wsX7_isIn := goodIn_r _ [12] rfl gw_wsX7_isIn
set_option maxRecDepth 20000 in
theorem gX7_as_X7_isIn : GoodIn wsX7_as (va_wsS RX7 65 yX7_isIn wsX7_isIn) := goodIn_app (goodIn_r _ [10, 11, 7] rfl (by decide +kernel)) ggX7_as_X7_isIn
set_option maxRecDepth 20000 in
theorem ggX7_as_X7_of : GoodIn wsX7_as wsX7_of := goodIn_r _ [16, 9, 20, 21, 22, 23, 24, 25, 26, 27, 28, 29, 30, 31, 32, 33, 34, 35, 36, 37, 38, 39, 40, 41, 42, 43, 44, 45, 46, 47, 48, 49, 50] rfl gw_wsX7_of
set_option maxRecDepth 20000 in
theorem gX7_as_X7_of : GoodIn wsX7_as (wsV RX7 85 RX7 yX7_of wsX7_of) := goodIn_app (goodIn_r _ [13, 14, 15, 7] rfl (by decide +kernel)) ggX7_as_X7_of
set_option maxRecDepth 20000 in
theorem gw_wsX7_isOf : wsX7_isOf.all goodWord = true := by decide +kernel
set_option maxRecDepth 20000 in
theorem ggX7_as_X7_isOf : GoodIn wsX7_as wsX7_isOf := goodIn_r _ [19] rfl gw_wsX7_isOf
set_option maxRecDepth 20000 in
theorem gX7_as_X7_isOf : GoodIn wsX7_as (va_wsS RX7 125 yX7_isOf wsX7_isOf) := goodIn_app (goodIn_r _ [17, 18, 7] rfl (by decide +kernel)) ggX7_as_X7_isOf
theorem dX7_as_0 : decode cX7_as 0 = .ok (.aload_n 0, 1) := zk42 (by decide +kernel)
theorem dX7_as_1 : decode cX7_as 1 = .ok (.iload_n 1, 1) := zk27 (by decide +kernel)
theorem dX7_as_2 : decode cX7_as 2 = .ok (.invokevirtual 116, 3) := zk182 0 116 (by decide +kernel)
theorem dX7_as_5 : decode cX7_as 5 = .ok (.ifCond .eq 15, 3) := zk153 0 15 rfl (by decide +kernel)
theorem dX7_as_8 : decode cX7_as 8 = .ok (.iload_n 2, 1) := zk28 (by decide +kernel)
theorem dX7_as_9 : decode cX7_as 9 = .ok (.i2l, 1) := zk133 (by decide +kernel)
theorem dX7_as_10 : decode cX7_as 10 = .ok (.lconst 0, 1) := zk9 (by decide +kernel)
theorem dX7_as_11 : decode cX7_as 11 = .ok (.ldc2_w 74, 3) := zk20 0 74 (by decide +kernel)
theorem dX7_as_14 : decode cX7_as 14 = .ok (.invokestatic 65, 3) := zk184 0 65 (by decide +kernel)
theorem dX7_as_17 : decode cX7_as 17 = .ok (.ifCond .ne 6, 3) := zk154 0 6 rfl (by decide +kernel)
theorem dX7_as_20 : decode cX7_as 20 = .ok (.ldc 80, 2) := zk18 80 (by decide +kernel)
theorem dX7_as_22 : decode cX7_as 22 = .ok (.ireturn, 1) := zk172 (by decide +kernel)
theorem dX7_as_23 : decode cX7_as 23 = .ok (.aload_n 0, 1) := zk42 (by decide +kernel)
theorem dX7_as_24 : decode cX7_as 24 = .ok (.iload_n 1, 1) := zk27 (by decide +kernel)
theorem dX7_as_25 : decode cX7_as 25 = .ok (.iconst 0, 1) := zk3 (by decide +kernel)
theorem dX7_as_26 : decode cX7_as 26 = .ok (.invokevirtual 85, 3) := zk182 0 85 (by decide +kernel)
theorem dX7_as_29 : decode cX7_as 29 = .ok (.iload_n 2, 1) := zk28 (by decide +kernel)
theorem dX7_as_30 : decode cX7_as 30 = .ok (.invokestatic 125, 3) := zk184 0 125 (by decide +kernel)
theorem dX7_as_33 : decode cX7_as 33 = .ok (.ifCond .eq 12, 3) := zk153 0 12 rfl (by decide +kernel)
theorem dX7_as_36 : decode cX7_as 36 = .ok (.aload_n 0, 1) := zk42 (by decide +kernel)
theorem dX7_as_37 : decode cX7_as 37 = .ok (.iload_n 1, 1) := zk27 (by decide +kernel)
theorem dX7_as_38 : decode cX7_as 38 = .ok (.iconst 3, 1) := zk6 (by decide +kernel)
theorem dX7_as_39 : decode cX7_as 39 = .ok (.invokevirtual 85, 3) := zk182 0 85 (by decide +kernel)
theorem dX7_as_42 : decode cX7_as 42 = .ok (.goto 5, 3) := zk167 0 5 rfl (by decide +kernel)
theorem dX7_as_45 : decode cX7_as 45 = .ok (.ldc 129, 2) := zk18 129 (by decide +kernel)
theorem dX7_as_47 : decode cX7_as 47 = .ok (.ireturn, 1) := zk172 (by decide +kernel)
set_option maxRecDepth 20000 in
theorem ggX7_holds_X7_within : GoodIn wsX7_holds wsX7_within := goodIn_r _ [5] rfl gw_wsX7_within
set_option maxRecDepth 20000 in
theorem gX7_holds_X7_within : GoodIn wsX7_holds (va_wsS RX7 106 yX7_within wsX7_within) := goodIn_app (goodIn_r _ [2, 3, 4] rfl (by decide +kernel)) ggX7_holds_X7_within
theorem dX7_holds_0 : decode cX7_holds 0 = .ok (.aload_n 0, 1) := zk42 (by decide +kernel)
theorem dX7_holds_1 : decode cX7_holds 1 = .ok (.getfield 7, 3) := zk180 0 7 (by decide +kernel)
theorem dX7_holds_4 : decode cX7_holds 4 = .ok (.bipush 7, 2) := zk16 7 rfl (by decide +kernel)
theorem dX7_holds_6 : decode cX7_holds 6 = .ok (.aload_n 0, 1) := zk42 (by decide +kernel)
theorem dX7_holds_7 : decode cX7_holds 7 = .ok (.getfield 7, 3) := zk180 0 7 (by decide +kernel)
theorem dX7_holds_10 : decode cX7_holds 10 = .ok (.bipush 7, 2) := zk16 7 rfl (by decide +kernel)
theorem dX7_holds_12 : decode cX7_holds 12 = .ok (.iaload, 1) := zk46 (by decide +kernel)
theorem dX7_holds_13 : decode cX7_holds 13 = .ok (.bipush 12, 2) := zk16 12 rfl (by decide +kernel)
theorem dX7_holds_15 : decode cX7_holds 15 = .ok (.aload_n 0, 1) := zk42 (by decide +kernel)
theorem dX7_holds_16 : decode cX7_holds 16 = .ok (.getfield 7, 3) := zk180 0 7 (by decide +kernel)
theorem dX7_holds_19 : decode cX7_holds 19 = .ok (.bipush 8, 2) := zk16 8 rfl (by decide +kernel)
theorem dX7_holds_21 : decode cX7_holds 21 = .ok (.iaload, 1) := zk46 (by decide +kernel)
theorem dX7_holds_22 : decode cX7_holds 22 = .ok (.isub, 1) := zk100 (by decide +kernel)
theorem dX7_holds_23 : decode cX7_holds 23 = .ok (.invokestatic 106, 3) := zk184 0 106 (by decide +kernel)
theorem dX7_holds_26 : decode cX7_holds 26 = .ok (.iastore, 1) := zk79 (by decide +kernel)
theorem dX7_holds_27 : decode cX7_holds 27 = .ok (.return_, 1) := zk177 (by decide +kernel)
set_option maxRecDepth 20000 in
theorem ggX7_payNow_X7_isShaded : GoodIn wsX7_payNow wsX7_isShaded := goodIn_r _ [6, 1, 7, 8, 9, 5, 10, 11, 12, 13, 14, 15, 16, 17, 18, 19, 20, 21, 22, 23, 24, 25, 26, 27, 28, 29, 30, 31, 32, 33, 34, 35, 36, 37, 38, 39, 40, 41, 42, 43, 44, 45, 46, 47, 48] rfl gw_wsX7_isShaded
set_option maxRecDepth 20000 in
theorem gX7_payNow_X7_isShaded : GoodIn wsX7_payNow (wsV RX7 109 RX7 yX7_isShaded wsX7_isShaded) := goodIn_app (goodIn_r _ [2, 3, 4, 5] rfl (by decide +kernel)) ggX7_payNow_X7_isShaded
set_option maxRecDepth 20000 in
theorem ggX7_payNow_X7_of : GoodIn wsX7_payNow wsX7_of := goodIn_r _ [10, 1, 18, 19, 20, 21, 22, 23, 24, 25, 26, 27, 28, 29, 30, 31, 32, 33, 34, 35, 36, 37, 38, 39, 40, 41, 42, 43, 44, 45, 46, 47, 48] rfl gw_wsX7_of
set_option maxRecDepth 20000 in
theorem gX7_payNow_X7_of : GoodIn wsX7_payNow (wsV RX7 85 RX7 yX7_of wsX7_of) := goodIn_app (goodIn_r _ [7, 8, 9, 5] rfl (by decide +kernel)) ggX7_payNow_X7_of
theorem dX7_payNow_0 : decode cX7_payNow 0 = .ok (.iconst 0, 1) := zk3 (by decide +kernel)
theorem dX7_payNow_1 : decode cX7_payNow 1 = .ok (.istore_n 1, 1) := zk60 (by decide +kernel)
theorem dX7_payNow_2 : decode cX7_payNow 2 = .ok (.iconst 0, 1) := zk3 (by decide +kernel)
theorem dX7_payNow_3 : decode cX7_payNow 3 = .ok (.istore_n 2, 1) := zk61 (by decide +kernel)
theorem dX7_payNow_4 : decode cX7_payNow 4 = .ok (.iload_n 2, 1) := zk28 (by decide +kernel)
theorem dX7_payNow_5 : decode cX7_payNow 5 = .ok (.aload_n 0, 1) := zk42 (by decide +kernel)
theorem dX7_payNow_6 : decode cX7_payNow 6 = .ok (.getfield 7, 3) := zk180 0 7 (by decide +kernel)
theorem dX7_payNow_9 : decode cX7_payNow 9 = .ok (.iconst 0, 1) := zk3 (by decide +kernel)
theorem dX7_payNow_10 : decode cX7_payNow 10 = .ok (.iaload, 1) := zk46 (by decide +kernel)
theorem dX7_payNow_11 : decode cX7_payNow 11 = .ok (.if_icmp .ge 30, 3) := zk162 0 30 rfl (by decide +kernel)
theorem dX7_payNow_14 : decode cX7_payNow 14 = .ok (.iload_n 1, 1) := zk27 (by decide +kernel)
theorem dX7_payNow_15 : decode cX7_payNow 15 = .ok (.aload_n 0, 1) := zk42 (by decide +kernel)
theorem dX7_payNow_16 : decode cX7_payNow 16 = .ok (.iload_n 2, 1) := zk28 (by decide +kernel)
theorem dX7_payNow_17 : decode cX7_payNow 17 = .ok (.invokevirtual 109, 3) := zk182 0 109 (by decide +kernel)
theorem dX7_payNow_20 : decode cX7_payNow 20 = .ok (.ifCond .eq 12, 3) := zk153 0 12 rfl (by decide +kernel)
theorem dX7_payNow_23 : decode cX7_payNow 23 = .ok (.aload_n 0, 1) := zk42 (by decide +kernel)
theorem dX7_payNow_24 : decode cX7_payNow 24 = .ok (.iload_n 2, 1) := zk28 (by decide +kernel)
theorem dX7_payNow_25 : decode cX7_payNow 25 = .ok (.iconst 3, 1) := zk6 (by decide +kernel)
theorem dX7_payNow_26 : decode cX7_payNow 26 = .ok (.invokevirtual 85, 3) := zk182 0 85 (by decide +kernel)
theorem dX7_payNow_29 : decode cX7_payNow 29 = .ok (.goto 4, 3) := zk167 0 4 rfl (by decide +kernel)
theorem dX7_payNow_32 : decode cX7_payNow 32 = .ok (.iconst 0, 1) := zk3 (by decide +kernel)
theorem dX7_payNow_33 : decode cX7_payNow 33 = .ok (.iadd, 1) := zk96 (by decide +kernel)
theorem dX7_payNow_34 : decode cX7_payNow 34 = .ok (.istore_n 1, 1) := zk60 (by decide +kernel)
theorem dX7_payNow_35 : decode cX7_payNow 35 = .ok (.iinc 2 1, 3) := by decide +kernel
theorem dX7_payNow_38 : decode cX7_payNow 38 = .ok (.goto (-34), 3) := zk167 255 222 rfl (by decide +kernel)
theorem dX7_payNow_41 : decode cX7_payNow 41 = .ok (.iload_n 1, 1) := zk27 (by decide +kernel)
theorem dX7_payNow_42 : decode cX7_payNow 42 = .ok (.ireturn, 1) := zk172 (by decide +kernel)
set_option maxRecDepth 20000 in
theorem gw_wsX7_holds : wsX7_holds.all goodWord = true := by decide +kernel
def bs_wsX7_payIf : List (List Cond) := [[.code yX7_payIf cX7_payIf 4 (some .int)], wsX7_payIf_r1, wsX7_payIf_r2, wsX70]
theorem bse_wsX7_payIf : wsX7_payIf = bs_wsX7_payIf.flatten := by
  unfold wsX7_payIf bs_wsX7_payIf
  simp only [List.flatten_cons, List.flatten_nil, List.append_nil, List.append_assoc, List.cons_append, List.nil_append]
set_option maxRecDepth 20000 in
theorem ggX7_payIf_X7_holds : GoodIn wsX7_payIf wsX7_holds := goodIn_pc bs_wsX7_payIf bse_wsX7_payIf _ [(1, [5, 0, 6, 7, 4, 8]), (3, [0, 1, 2, 3, 4, 5, 6, 7, 8, 9, 10, 11, 12, 13, 14, 15, 16, 17, 18, 19, 20, 21, 22, 23, 24, 25, 26, 27, 28, 29, 30])] rfl gw_wsX7_holds
set_option maxRecDepth 20000 in
theorem gX7_payIf_X7_holds : GoodIn wsX7_payIf (wsV RX7 149 RX7 yX7_holds wsX7_holds) := goodIn_app (goodIn_pc bs_wsX7_payIf bse_wsX7_payIf _ [(1, [1, 2, 3, 4])] rfl (by decide +kernel)) ggX7_payIf_X7_holds
set_option maxRecDepth 20000 in
theorem gw_wsX7_payNow : wsX7_payNow.all goodWord = true := by decide +kernel
set_option maxRecDepth 20000 in
theorem ggX7_payIf_X7_payNow : GoodIn wsX7_payIf wsX7_payNow := goodIn_pc bs_wsX7_payIf bse_wsX7_payIf _ [(1, [12, 0, 13, 14, 15, 4, 16, 17, 18, 19, 20, 21, 22, 23]), (2, [0, 1, 2, 3]), (3, [0, 1, 2, 3, 4, 5, 6, 7, 8, 9, 10, 11, 12, 13, 14, 15, 16, 17, 18, 19, 20, 21, 22, 23, 24, 25, 26, 27, 28, 29, 30])] rfl gw_wsX7_payNow
set_option maxRecDepth 20000 in
theorem gX7_payIf_X7_payNow : GoodIn wsX7_payIf (wsV RX7 157 RX7 yX7_payNow wsX7_payNow) := goodIn_app (goodIn_pc bs_wsX7_payIf bse_wsX7_payIf _ [(1, [9, 10, 11, 4])] rfl (by decide +kernel)) ggX7_payIf_X7_payNow
theorem dX7_payIf_0 : decode cX7_payIf 0 = .ok (.aload_n 0, 1) := zk42 (by decide +kernel)
theorem dX7_payIf_1 : decode cX7_payIf 1 = .ok (.getfield 7, 3) := zk180 0 7 (by decide +kernel)
theorem dX7_payIf_4 : decode cX7_payIf 4 = .ok (.bipush 7, 2) := zk16 7 rfl (by decide +kernel)
theorem dX7_payIf_6 : decode cX7_payIf 6 = .ok (.iaload, 1) := zk46 (by decide +kernel)
theorem dX7_payIf_7 : decode cX7_payIf 7 = .ok (.istore_n 2, 1) := zk61 (by decide +kernel)
theorem dX7_payIf_8 : decode cX7_payIf 8 = .ok (.aload_n 0, 1) := zk42 (by decide +kernel)
theorem dX7_payIf_9 : decode cX7_payIf 9 = .ok (.getfield 7, 3) := zk180 0 7 (by decide +kernel)
theorem dX7_payIf_12 : decode cX7_payIf 12 = .ok (.bipush 7, 2) := zk16 7 rfl (by decide +kernel)
theorem dX7_payIf_14 : decode cX7_payIf 14 = .ok (.dup2, 1) := zk92 (by decide +kernel)
theorem dX7_payIf_15 : decode cX7_payIf 15 = .ok (.iaload, 1) := zk46 (by decide +kernel)
theorem dX7_payIf_16 : decode cX7_payIf 16 = .ok (.iload_n 1, 1) := zk27 (by decide +kernel)
theorem dX7_payIf_17 : decode cX7_payIf 17 = .ok (.iadd, 1) := zk96 (by decide +kernel)
theorem dX7_payIf_18 : decode cX7_payIf 18 = .ok (.iastore, 1) := zk79 (by decide +kernel)
theorem dX7_payIf_19 : decode cX7_payIf 19 = .ok (.aload_n 0, 1) := zk42 (by decide +kernel)
theorem dX7_payIf_20 : decode cX7_payIf 20 = .ok (.invokevirtual 149, 3) := zk182 0 149 (by decide +kernel)
theorem dX7_payIf_23 : decode cX7_payIf 23 = .ok (.aload_n 0, 1) := zk42 (by decide +kernel)
theorem dX7_payIf_24 : decode cX7_payIf 24 = .ok (.invokevirtual 157, 3) := zk182 0 157 (by decide +kernel)
theorem dX7_payIf_27 : decode cX7_payIf 27 = .ok (.istore_n 3, 1) := zk62 (by decide +kernel)
theorem dX7_payIf_28 : decode cX7_payIf 28 = .ok (.aload_n 0, 1) := zk42 (by decide +kernel)
theorem dX7_payIf_29 : decode cX7_payIf 29 = .ok (.getfield 7, 3) := zk180 0 7 (by decide +kernel)
theorem dX7_payIf_32 : decode cX7_payIf 32 = .ok (.bipush 7, 2) := zk16 7 rfl (by decide +kernel)
theorem dX7_payIf_34 : decode cX7_payIf 34 = .ok (.iload_n 2, 1) := zk28 (by decide +kernel)
theorem dX7_payIf_35 : decode cX7_payIf 35 = .ok (.iastore, 1) := zk79 (by decide +kernel)
theorem dX7_payIf_36 : decode cX7_payIf 36 = .ok (.iload_n 3, 1) := zk29 (by decide +kernel)
theorem dX7_payIf_37 : decode cX7_payIf 37 = .ok (.ireturn, 1) := zk172 (by decide +kernel)
set_option maxRecDepth 20000 in
theorem gw_wsX7_payIf : wsX7_payIf.all goodWord = true := by decide +kernel
def bs_wsX7_hauls : List (List Cond) := [[.code yX7_hauls cX7_hauls 4 (some .int)], wsX7_hauls_r1, wsX7_hauls_r2, wsX7_hauls_r3, wsX70]
theorem bse_wsX7_hauls : wsX7_hauls = bs_wsX7_hauls.flatten := by
  unfold wsX7_hauls bs_wsX7_hauls
  simp only [List.flatten_cons, List.flatten_nil, List.append_nil, List.append_assoc, List.cons_append, List.nil_append]
set_option maxRecDepth 20000 in
theorem ggX7_hauls_X7_payIf : GoodIn wsX7_hauls wsX7_payIf := goodIn_pc bs_wsX7_hauls bse_wsX7_hauls _ [(1, [5, 0, 6, 7, 8, 4, 9, 10, 11, 12, 13, 14, 15, 16, 17, 18, 19, 20, 21, 22, 23]), (2, [0, 1, 2, 3, 4, 5, 6, 7]), (4, [0, 1, 2, 3, 4, 5, 6, 7, 8, 9, 10, 11, 12, 13, 14, 15, 16, 17, 18, 19, 20, 21, 22, 23, 24, 25, 26, 27, 28, 29, 30])] rfl gw_wsX7_payIf
set_option maxRecDepth 20000 in
theorem gX7_hauls_X7_payIf : GoodIn wsX7_hauls (wsV RX7 160 RX7 yX7_payIf wsX7_payIf) := goodIn_app (goodIn_pc bs_wsX7_hauls bse_wsX7_hauls _ [(1, [1, 2, 3, 4])] rfl (by decide +kernel)) ggX7_hauls_X7_payIf
set_option maxRecDepth 20000 in
theorem ggX7_hauls_X7_isShaded : GoodIn wsX7_hauls wsX7_isShaded := goodIn_pc bs_wsX7_hauls bse_wsX7_hauls _ [(1, [20, 0, 21, 22, 23, 4]), (2, [0, 1, 2, 3, 4, 5, 6, 7]), (4, [0, 1, 2, 3, 4, 5, 6, 7, 8, 9, 10, 11, 12, 13, 14, 15, 16, 17, 18, 19, 20, 21, 22, 23, 24, 25, 26, 27, 28, 29, 30])] rfl gw_wsX7_isShaded
set_option maxRecDepth 20000 in
theorem gX7_hauls_X7_isShaded : GoodIn wsX7_hauls (wsV RX7 109 RX7 yX7_isShaded wsX7_isShaded) := goodIn_app (goodIn_pc bs_wsX7_hauls bse_wsX7_hauls _ [(1, [17, 18, 19, 4])] rfl (by decide +kernel)) ggX7_hauls_X7_isShaded
set_option maxRecDepth 20000 in
theorem gw_wsX7_spoils : wsX7_spoils.all goodWord = true := by decide +kernel
set_option maxRecDepth 20000 in
theorem ggX7_hauls_X7_spoils : GoodIn wsX7_hauls wsX7_spoils := goodIn_pc bs_wsX7_hauls bse_wsX7_hauls _ [(2, [11]), (1, [17, 18, 19, 4, 20, 0, 21, 22, 23]), (2, [0, 1, 2, 3, 4, 5, 6, 7, 12, 13, 14, 15, 16, 17, 18, 19, 20, 21, 22, 23]), (3, [0, 1, 2, 3, 4, 5, 6, 7, 8, 9, 10, 11, 12, 13, 14, 15]), (1, [10, 11, 12]), (4, [0, 1, 2, 3, 4, 5, 6, 7, 8, 9, 10, 11, 12, 13, 14, 15, 16, 17, 18, 19, 20, 21, 22, 23, 24, 25, 26, 27, 28, 29, 30])] rfl gw_wsX7_spoils
set_option maxRecDepth 20000 in
theorem gX7_hauls_X7_spoils : GoodIn wsX7_hauls (wsV RX7 119 RX7 yX7_spoils wsX7_spoils) := goodIn_app (goodIn_pc bs_wsX7_hauls bse_wsX7_hauls _ [(2, [8, 9, 10]), (1, [4])] rfl (by decide +kernel)) ggX7_hauls_X7_spoils
set_option maxRecDepth 20000 in
theorem ggX7_hauls_X7_of : GoodIn wsX7_hauls wsX7_of := goodIn_pc bs_wsX7_hauls bse_wsX7_hauls _ [(2, [0]), (1, [0]), (4, [0, 1, 2, 3, 4, 5, 6, 7, 8, 9, 10, 11, 12, 13, 14, 15, 16, 17, 18, 19, 20, 21, 22, 23, 24, 25, 26, 27, 28, 29, 30])] rfl gw_wsX7_of
set_option maxRecDepth 20000 in
theorem gX7_hauls_X7_of : GoodIn wsX7_hauls (wsV RX7 85 RX7 yX7_of wsX7_of) := goodIn_app (goodIn_pc bs_wsX7_hauls bse_wsX7_hauls _ [(1, [21, 22, 23, 4])] rfl (by decide +kernel)) ggX7_hauls_X7_of
set_option maxRecDepth 20000 in
theorem ggX7_hauls_X7_shadeFrom : GoodIn wsX7_hauls wsX7_shadeFrom := goodIn_pc bs_wsX7_hauls bse_wsX7_hauls _ [(2, [4]), (1, [0]), (4, [0, 1, 2, 3, 4, 5, 6, 7, 8, 9, 10, 11, 12, 13, 14, 15, 16, 17, 18, 19, 20, 21, 22, 23, 24, 25, 26, 27, 28, 29, 30])] rfl gw_wsX7_shadeFrom
set_option maxRecDepth 20000 in
theorem gX7_hauls_X7_shadeFrom : GoodIn wsX7_hauls (wsV RX7 89 RX7 yX7_shadeFrom wsX7_shadeFrom) := goodIn_app (goodIn_pc bs_wsX7_hauls bse_wsX7_hauls _ [(2, [1, 2, 3]), (1, [4])] rfl (by decide +kernel)) ggX7_hauls_X7_shadeFrom
theorem dX7_hauls_0 : decode cX7_hauls 0 = .ok (.aload_n 0, 1) := zk42 (by decide +kernel)
theorem dX7_hauls_1 : decode cX7_hauls 1 = .ok (.getfield 7, 3) := zk180 0 7 (by decide +kernel)
theorem dX7_hauls_4 : decode cX7_hauls 4 = .ok (.bipush 10, 2) := zk16 10 rfl (by decide +kernel)
theorem dX7_hauls_6 : decode cX7_hauls 6 = .ok (.iaload, 1) := zk46 (by decide +kernel)
theorem dX7_hauls_7 : decode cX7_hauls 7 = .ok (.ifCond .ne 5, 3) := zk154 0 5 rfl (by decide +kernel)
theorem dX7_hauls_10 : decode cX7_hauls 10 = .ok (.iconst 0, 1) := zk3 (by decide +kernel)
theorem dX7_hauls_11 : decode cX7_hauls 11 = .ok (.ireturn, 1) := zk172 (by decide +kernel)
theorem dX7_hauls_12 : decode cX7_hauls 12 = .ok (.aload_n 0, 1) := zk42 (by decide +kernel)
theorem dX7_hauls_13 : decode cX7_hauls 13 = .ok (.getfield 7, 3) := zk180 0 7 (by decide +kernel)
theorem dX7_hauls_16 : decode cX7_hauls 16 = .ok (.bipush 10, 2) := zk16 10 rfl (by decide +kernel)
theorem dX7_hauls_18 : decode cX7_hauls 18 = .ok (.iaload, 1) := zk46 (by decide +kernel)
theorem dX7_hauls_19 : decode cX7_hauls 19 = .ok (.iconst 2, 1) := zk5 (by decide +kernel)
theorem dX7_hauls_20 : decode cX7_hauls 20 = .ok (.if_icmp .ne 43, 3) := zk160 0 43 rfl (by decide +kernel)
theorem dX7_hauls_23 : decode cX7_hauls 23 = .ok (.aload_n 0, 1) := zk42 (by decide +kernel)
theorem dX7_hauls_24 : decode cX7_hauls 24 = .ok (.iconst (-1), 1) := zk2 (by decide +kernel)
theorem dX7_hauls_25 : decode cX7_hauls 25 = .ok (.invokevirtual 160, 3) := zk182 0 160 (by decide +kernel)
theorem dX7_hauls_28 : decode cX7_hauls 28 = .ok (.istore_n 1, 1) := zk60 (by decide +kernel)
theorem dX7_hauls_29 : decode cX7_hauls 29 = .ok (.iload_n 1, 1) := zk27 (by decide +kernel)
theorem dX7_hauls_30 : decode cX7_hauls 30 = .ok (.aload_n 0, 1) := zk42 (by decide +kernel)
theorem dX7_hauls_31 : decode cX7_hauls 31 = .ok (.iconst 0, 1) := zk3 (by decide +kernel)
theorem dX7_hauls_32 : decode cX7_hauls 32 = .ok (.invokevirtual 160, 3) := zk182 0 160 (by decide +kernel)
theorem dX7_hauls_35 : decode cX7_hauls 35 = .ok (.if_icmp .le 7, 3) := zk164 0 7 rfl (by decide +kernel)
theorem dX7_hauls_38 : decode cX7_hauls 38 = .ok (.iconst (-1), 1) := zk2 (by decide +kernel)
theorem dX7_hauls_39 : decode cX7_hauls 39 = .ok (.goto 4, 3) := zk167 0 4 rfl (by decide +kernel)
theorem dX7_hauls_42 : decode cX7_hauls 42 = .ok (.iconst 0, 1) := zk3 (by decide +kernel)
theorem dX7_hauls_43 : decode cX7_hauls 43 = .ok (.istore_n 2, 1) := zk61 (by decide +kernel)
theorem dX7_hauls_44 : decode cX7_hauls 44 = .ok (.aload_n 0, 1) := zk42 (by decide +kernel)
theorem dX7_hauls_45 : decode cX7_hauls 45 = .ok (.iconst 1, 1) := zk4 (by decide +kernel)
theorem dX7_hauls_46 : decode cX7_hauls 46 = .ok (.invokevirtual 160, 3) := zk182 0 160 (by decide +kernel)
theorem dX7_hauls_49 : decode cX7_hauls 49 = .ok (.aload_n 0, 1) := zk42 (by decide +kernel)
theorem dX7_hauls_50 : decode cX7_hauls 50 = .ok (.iload_n 2, 1) := zk28 (by decide +kernel)
theorem dX7_hauls_51 : decode cX7_hauls 51 = .ok (.invokevirtual 160, 3) := zk182 0 160 (by decide +kernel)
theorem dX7_hauls_54 : decode cX7_hauls 54 = .ok (.if_icmp .le 7, 3) := zk164 0 7 rfl (by decide +kernel)
theorem dX7_hauls_57 : decode cX7_hauls 57 = .ok (.iconst 1, 1) := zk4 (by decide +kernel)
theorem dX7_hauls_58 : decode cX7_hauls 58 = .ok (.goto 4, 3) := zk167 0 4 rfl (by decide +kernel)
theorem dX7_hauls_61 : decode cX7_hauls 61 = .ok (.iload_n 2, 1) := zk28 (by decide +kernel)
theorem dX7_hauls_62 : decode cX7_hauls 62 = .ok (.ireturn, 1) := zk172 (by decide +kernel)
theorem dX7_hauls_63 : decode cX7_hauls 63 = .ok (.iconst (-1), 1) := zk2 (by decide +kernel)
theorem dX7_hauls_64 : decode cX7_hauls 64 = .ok (.istore_n 1, 1) := zk60 (by decide +kernel)
theorem dX7_hauls_65 : decode cX7_hauls 65 = .ok (.iconst 0, 1) := zk3 (by decide +kernel)
theorem dX7_hauls_66 : decode cX7_hauls 66 = .ok (.istore_n 2, 1) := zk61 (by decide +kernel)
theorem dX7_hauls_67 : decode cX7_hauls 67 = .ok (.iload_n 2, 1) := zk28 (by decide +kernel)
theorem dX7_hauls_68 : decode cX7_hauls 68 = .ok (.aload_n 0, 1) := zk42 (by decide +kernel)
theorem dX7_hauls_69 : decode cX7_hauls 69 = .ok (.getfield 7, 3) := zk180 0 7 (by decide +kernel)
theorem dX7_hauls_72 : decode cX7_hauls 72 = .ok (.iconst 0, 1) := zk3 (by decide +kernel)
theorem dX7_hauls_73 : decode cX7_hauls 73 = .ok (.iaload, 1) := zk46 (by decide +kernel)
theorem dX7_hauls_74 : decode cX7_hauls 74 = .ok (.if_icmp .ge 58, 3) := zk162 0 58 rfl (by decide +kernel)
theorem dX7_hauls_77 : decode cX7_hauls 77 = .ok (.aload_n 0, 1) := zk42 (by decide +kernel)
theorem dX7_hauls_78 : decode cX7_hauls 78 = .ok (.iload_n 2, 1) := zk28 (by decide +kernel)
theorem dX7_hauls_79 : decode cX7_hauls 79 = .ok (.invokevirtual 109, 3) := zk182 0 109 (by decide +kernel)
theorem dX7_hauls_82 : decode cX7_hauls 82 = .ok (.ifCond .ne 15, 3) := zk154 0 15 rfl (by decide +kernel)
theorem dX7_hauls_85 : decode cX7_hauls 85 = .ok (.aload_n 0, 1) := zk42 (by decide +kernel)
theorem dX7_hauls_86 : decode cX7_hauls 86 = .ok (.iload_n 2, 1) := zk28 (by decide +kernel)
theorem dX7_hauls_87 : decode cX7_hauls 87 = .ok (.invokevirtual 119, 3) := zk182 0 119 (by decide +kernel)
theorem dX7_hauls_90 : decode cX7_hauls 90 = .ok (.ifCond .le 7, 3) := zk158 0 7 rfl (by decide +kernel)
theorem dX7_hauls_93 : decode cX7_hauls 93 = .ok (.iconst 1, 1) := zk4 (by decide +kernel)
theorem dX7_hauls_94 : decode cX7_hauls 94 = .ok (.goto 4, 3) := zk167 0 4 rfl (by decide +kernel)
theorem dX7_hauls_97 : decode cX7_hauls 97 = .ok (.iconst 0, 1) := zk3 (by decide +kernel)
theorem dX7_hauls_98 : decode cX7_hauls 98 = .ok (.istore_n 3, 1) := zk62 (by decide +kernel)
theorem dX7_hauls_99 : decode cX7_hauls 99 = .ok (.iload_n 3, 1) := zk29 (by decide +kernel)
theorem dX7_hauls_100 : decode cX7_hauls 100 = .ok (.ifCond .eq 24, 3) := zk153 0 24 rfl (by decide +kernel)
theorem dX7_hauls_103 : decode cX7_hauls 103 = .ok (.iload_n 1, 1) := zk27 (by decide +kernel)
theorem dX7_hauls_104 : decode cX7_hauls 104 = .ok (.ifCond .lt 16, 3) := zk155 0 16 rfl (by decide +kernel)
theorem dX7_hauls_107 : decode cX7_hauls 107 = .ok (.aload_n 0, 1) := zk42 (by decide +kernel)
theorem dX7_hauls_108 : decode cX7_hauls 108 = .ok (.iload_n 2, 1) := zk28 (by decide +kernel)
theorem dX7_hauls_109 : decode cX7_hauls 109 = .ok (.invokevirtual 119, 3) := zk182 0 119 (by decide +kernel)
theorem dX7_hauls_112 : decode cX7_hauls 112 = .ok (.aload_n 0, 1) := zk42 (by decide +kernel)
theorem dX7_hauls_113 : decode cX7_hauls 113 = .ok (.iload_n 1, 1) := zk27 (by decide +kernel)
theorem dX7_hauls_114 : decode cX7_hauls 114 = .ok (.invokevirtual 119, 3) := zk182 0 119 (by decide +kernel)
theorem dX7_hauls_117 : decode cX7_hauls 117 = .ok (.if_icmp .le 7, 3) := zk164 0 7 rfl (by decide +kernel)
theorem dX7_hauls_120 : decode cX7_hauls 120 = .ok (.iload_n 2, 1) := zk28 (by decide +kernel)
theorem dX7_hauls_121 : decode cX7_hauls 121 = .ok (.goto 4, 3) := zk167 0 4 rfl (by decide +kernel)
theorem dX7_hauls_124 : decode cX7_hauls 124 = .ok (.iload_n 1, 1) := zk27 (by decide +kernel)
theorem dX7_hauls_125 : decode cX7_hauls 125 = .ok (.istore_n 1, 1) := zk60 (by decide +kernel)
theorem dX7_hauls_126 : decode cX7_hauls 126 = .ok (.iinc 2 1, 3) := by decide +kernel
theorem dX7_hauls_129 : decode cX7_hauls 129 = .ok (.goto (-62), 3) := zk167 255 194 rfl (by decide +kernel)
theorem dX7_hauls_132 : decode cX7_hauls 132 = .ok (.iload_n 1, 1) := zk27 (by decide +kernel)
theorem dX7_hauls_133 : decode cX7_hauls 133 = .ok (.ifCond .ge 7, 3) := zk156 0 7 rfl (by decide +kernel)
theorem dX7_hauls_136 : decode cX7_hauls 136 = .ok (.iconst 0, 1) := zk3 (by decide +kernel)
theorem dX7_hauls_137 : decode cX7_hauls 137 = .ok (.goto 21, 3) := zk167 0 21 rfl (by decide +kernel)
theorem dX7_hauls_140 : decode cX7_hauls 140 = .ok (.aload_n 0, 1) := zk42 (by decide +kernel)
theorem dX7_hauls_141 : decode cX7_hauls 141 = .ok (.iload_n 1, 1) := zk27 (by decide +kernel)
theorem dX7_hauls_142 : decode cX7_hauls 142 = .ok (.iconst 1, 1) := zk4 (by decide +kernel)
theorem dX7_hauls_143 : decode cX7_hauls 143 = .ok (.invokevirtual 85, 3) := zk182 0 85 (by decide +kernel)
theorem dX7_hauls_146 : decode cX7_hauls 146 = .ok (.aload_n 0, 1) := zk42 (by decide +kernel)
theorem dX7_hauls_147 : decode cX7_hauls 147 = .ok (.invokevirtual 89, 3) := zk182 0 89 (by decide +kernel)
theorem dX7_hauls_150 : decode cX7_hauls 150 = .ok (.if_icmp .ge 7, 3) := zk162 0 7 rfl (by decide +kernel)
theorem dX7_hauls_153 : decode cX7_hauls 153 = .ok (.iconst (-1), 1) := zk2 (by decide +kernel)
theorem dX7_hauls_154 : decode cX7_hauls 154 = .ok (.goto 4, 3) := zk167 0 4 rfl (by decide +kernel)
theorem dX7_hauls_157 : decode cX7_hauls 157 = .ok (.iconst 1, 1) := zk4 (by decide +kernel)
theorem dX7_hauls_158 : decode cX7_hauls 158 = .ok (.ireturn, 1) := zk172 (by decide +kernel)
def bs_wsX7_goesOnBy : List (List Cond) := [[.code yX7_goesOnBy cX7_goesOnBy 4 none], wsX7_goesOnBy_r1, wsX7_goesOnBy_r2, wsX7_goesOnBy_r3, wsX70]
theorem bse_wsX7_goesOnBy : wsX7_goesOnBy = bs_wsX7_goesOnBy.flatten := by
  unfold wsX7_goesOnBy bs_wsX7_goesOnBy
  simp only [List.flatten_cons, List.flatten_nil, List.append_nil, List.append_assoc, List.cons_append, List.nil_append]
set_option maxRecDepth 20000 in
theorem ggX7_goesOnBy_X7_holds : GoodIn wsX7_goesOnBy wsX7_holds := goodIn_pc bs_wsX7_goesOnBy bse_wsX7_goesOnBy _ [(1, [5, 0, 6, 7, 4, 8]), (4, [0, 1, 2, 3, 4, 5, 6, 7, 8, 9, 10, 11, 12, 13, 14, 15, 16, 17, 18, 19, 20, 21, 22, 23, 24, 25, 26, 27, 28, 29, 30])] rfl gw_wsX7_holds
set_option maxRecDepth 20000 in
theorem gX7_goesOnBy_X7_holds : GoodIn wsX7_goesOnBy (wsV RX7 149 RX7 yX7_holds wsX7_holds) := goodIn_app (goodIn_pc bs_wsX7_goesOnBy bse_wsX7_goesOnBy _ [(1, [1, 2, 3, 4])] rfl (by decide +kernel)) ggX7_goesOnBy_X7_holds
set_option maxRecDepth 20000 in
theorem ggX7_goesOnBy_X7_spoils : GoodIn wsX7_goesOnBy wsX7_spoils := goodIn_pc bs_wsX7_goesOnBy bse_wsX7_goesOnBy _ [(1, [12, 13, 14, 15, 4, 16, 0, 17, 18, 19, 20, 21, 22, 23]), (2, [0, 1, 2, 3, 4, 5, 6, 7, 8, 9, 10, 11, 12, 13, 14, 15, 16, 17, 18, 19, 20, 21, 22, 23]), (3, [0, 1, 2, 3, 4, 5, 6, 7]), (1, [6, 7, 8]), (4, [0, 1, 2, 3, 4, 5, 6, 7, 8, 9, 10, 11, 12, 13, 14, 15, 16, 17, 18, 19, 20, 21, 22, 23, 24, 25, 26, 27, 28, 29, 30])] rfl gw_wsX7_spoils
set_option maxRecDepth 20000 in
theorem gX7_goesOnBy_X7_spoils : GoodIn wsX7_goesOnBy (wsV RX7 119 RX7 yX7_spoils wsX7_spoils) := goodIn_app (goodIn_pc bs_wsX7_goesOnBy bse_wsX7_goesOnBy _ [(1, [9, 10, 11, 4])] rfl (by decide +kernel)) ggX7_goesOnBy_X7_spoils
set_option maxRecDepth 20000 in
theorem ggX7_goesOnBy_X7_of : GoodIn wsX7_goesOnBy wsX7_of := goodIn_pc bs_wsX7_goesOnBy bse_wsX7_goesOnBy _ [(1, [20, 0]), (4, [0, 1, 2, 3, 4, 5, 6, 7, 8, 9, 10, 11, 12, 13, 14, 15, 16, 17, 18, 19, 20, 21, 22, 23, 24, 25, 26, 27, 28, 29, 30])] rfl gw_wsX7_of
set_option maxRecDepth 20000 in
theorem gX7_goesOnBy_X7_of : GoodIn wsX7_goesOnBy (wsV RX7 85 RX7 yX7_of wsX7_of) := goodIn_app (goodIn_pc bs_wsX7_goesOnBy bse_wsX7_goesOnBy _ [(1, [17, 18, 19, 4])] rfl (by decide +kernel)) ggX7_goesOnBy_X7_of
set_option maxRecDepth 20000 in
theorem gw_wsX7_sets : wsX7_sets.all goodWord = true := by decide +kernel
set_option maxRecDepth 20000 in
theorem ggX7_goesOnBy_X7_sets : GoodIn wsX7_goesOnBy wsX7_sets := goodIn_pc bs_wsX7_goesOnBy bse_wsX7_goesOnBy _ [(3, [11]), (1, [0]), (4, [0, 1, 2, 3, 4, 5, 6, 7, 8, 9, 10, 11, 12, 13, 14, 15, 16, 17, 18, 19, 20, 21, 22, 23, 24, 25, 26, 27, 28, 29, 30])] rfl gw_wsX7_sets
set_option maxRecDepth 20000 in
theorem gX7_goesOnBy_X7_sets : GoodIn wsX7_goesOnBy (wsV RX7 70 RX7 yX7_sets wsX7_sets) := goodIn_app (goodIn_pc bs_wsX7_goesOnBy bse_wsX7_goesOnBy _ [(3, [8, 9, 10]), (1, [4])] rfl (by decide +kernel)) ggX7_goesOnBy_X7_sets
set_option maxRecDepth 20000 in
theorem ggX7_goesOnBy_X7_isShaded : GoodIn wsX7_goesOnBy wsX7_isShaded := goodIn_pc bs_wsX7_goesOnBy bse_wsX7_goesOnBy _ [(1, [16, 0, 17, 18, 19, 4, 20, 21, 22, 23]), (2, [0, 1, 2, 3]), (4, [0, 1, 2, 3, 4, 5, 6, 7, 8, 9, 10, 11, 12, 13, 14, 15, 16, 17, 18, 19, 20, 21, 22, 23, 24, 25, 26, 27, 28, 29, 30])] rfl gw_wsX7_isShaded
set_option maxRecDepth 20000 in
theorem gX7_goesOnBy_X7_isShaded : GoodIn wsX7_goesOnBy (wsV RX7 109 RX7 yX7_isShaded wsX7_isShaded) := goodIn_app (goodIn_pc bs_wsX7_goesOnBy bse_wsX7_goesOnBy _ [(1, [13, 14, 15, 4])] rfl (by decide +kernel)) ggX7_goesOnBy_X7_isShaded
set_option maxRecDepth 20000 in
theorem gw_wsX7_drawn : wsX7_drawn.all goodWord = true := by decide +kernel
set_option maxRecDepth 20000 in
theorem ggX7_goesOnBy_X7_drawn : GoodIn wsX7_goesOnBy wsX7_drawn := goodIn_pc bs_wsX7_goesOnBy bse_wsX7_goesOnBy _ [(3, [15]), (1, [0]), (3, [16]), (4, [0, 1, 2, 3, 4, 5, 6, 7, 8, 9, 10, 11, 12, 13, 14, 15, 16, 17, 18, 19, 20, 21, 22, 23, 24, 25, 26, 27, 28, 29, 30])] rfl gw_wsX7_drawn
set_option maxRecDepth 20000 in
theorem gX7_goesOnBy_X7_drawn : GoodIn wsX7_goesOnBy (wsV RX7 154 RX7 yX7_drawn wsX7_drawn) := goodIn_app (goodIn_pc bs_wsX7_goesOnBy bse_wsX7_goesOnBy _ [(3, [12, 13, 14]), (1, [4])] rfl (by decide +kernel)) ggX7_goesOnBy_X7_drawn
theorem dX7_goesOnBy_0 : decode cX7_goesOnBy 0 = .ok (.aload_n 0, 1) := zk42 (by decide +kernel)
theorem dX7_goesOnBy_1 : decode cX7_goesOnBy 1 = .ok (.getfield 7, 3) := zk180 0 7 (by decide +kernel)
theorem dX7_goesOnBy_4 : decode cX7_goesOnBy 4 = .ok (.bipush 7, 2) := zk16 7 rfl (by decide +kernel)
theorem dX7_goesOnBy_6 : decode cX7_goesOnBy 6 = .ok (.dup2, 1) := zk92 (by decide +kernel)
theorem dX7_goesOnBy_7 : decode cX7_goesOnBy 7 = .ok (.iaload, 1) := zk46 (by decide +kernel)
theorem dX7_goesOnBy_8 : decode cX7_goesOnBy 8 = .ok (.iload_n 1, 1) := zk27 (by decide +kernel)
theorem dX7_goesOnBy_9 : decode cX7_goesOnBy 9 = .ok (.iadd, 1) := zk96 (by decide +kernel)
theorem dX7_goesOnBy_10 : decode cX7_goesOnBy 10 = .ok (.iastore, 1) := zk79 (by decide +kernel)
theorem dX7_goesOnBy_11 : decode cX7_goesOnBy 11 = .ok (.aload_n 0, 1) := zk42 (by decide +kernel)
theorem dX7_goesOnBy_12 : decode cX7_goesOnBy 12 = .ok (.invokevirtual 149, 3) := zk182 0 149 (by decide +kernel)
theorem dX7_goesOnBy_15 : decode cX7_goesOnBy 15 = .ok (.iconst 0, 1) := zk3 (by decide +kernel)
theorem dX7_goesOnBy_16 : decode cX7_goesOnBy 16 = .ok (.istore_n 2, 1) := zk61 (by decide +kernel)
theorem dX7_goesOnBy_17 : decode cX7_goesOnBy 17 = .ok (.iload_n 2, 1) := zk28 (by decide +kernel)
theorem dX7_goesOnBy_18 : decode cX7_goesOnBy 18 = .ok (.aload_n 0, 1) := zk42 (by decide +kernel)
theorem dX7_goesOnBy_19 : decode cX7_goesOnBy 19 = .ok (.getfield 7, 3) := zk180 0 7 (by decide +kernel)
theorem dX7_goesOnBy_22 : decode cX7_goesOnBy 22 = .ok (.iconst 0, 1) := zk3 (by decide +kernel)
theorem dX7_goesOnBy_23 : decode cX7_goesOnBy 23 = .ok (.iaload, 1) := zk46 (by decide +kernel)
theorem dX7_goesOnBy_24 : decode cX7_goesOnBy 24 = .ok (.if_icmp .ge 66, 3) := zk162 0 66 rfl (by decide +kernel)
theorem dX7_goesOnBy_27 : decode cX7_goesOnBy 27 = .ok (.aload_n 0, 1) := zk42 (by decide +kernel)
theorem dX7_goesOnBy_28 : decode cX7_goesOnBy 28 = .ok (.iload_n 2, 1) := zk28 (by decide +kernel)
theorem dX7_goesOnBy_29 : decode cX7_goesOnBy 29 = .ok (.invokevirtual 119, 3) := zk182 0 119 (by decide +kernel)
theorem dX7_goesOnBy_32 : decode cX7_goesOnBy 32 = .ok (.istore_n 3, 1) := zk62 (by decide +kernel)
theorem dX7_goesOnBy_33 : decode cX7_goesOnBy 33 = .ok (.aload_n 0, 1) := zk42 (by decide +kernel)
theorem dX7_goesOnBy_34 : decode cX7_goesOnBy 34 = .ok (.getfield 7, 3) := zk180 0 7 (by decide +kernel)
theorem dX7_goesOnBy_37 : decode cX7_goesOnBy 37 = .ok (.iconst 4, 1) := zk7 (by decide +kernel)
theorem dX7_goesOnBy_38 : decode cX7_goesOnBy 38 = .ok (.dup2, 1) := zk92 (by decide +kernel)
theorem dX7_goesOnBy_39 : decode cX7_goesOnBy 39 = .ok (.iaload, 1) := zk46 (by decide +kernel)
theorem dX7_goesOnBy_40 : decode cX7_goesOnBy 40 = .ok (.iload_n 3, 1) := zk29 (by decide +kernel)
theorem dX7_goesOnBy_41 : decode cX7_goesOnBy 41 = .ok (.iadd, 1) := zk96 (by decide +kernel)
theorem dX7_goesOnBy_42 : decode cX7_goesOnBy 42 = .ok (.iastore, 1) := zk79 (by decide +kernel)
theorem dX7_goesOnBy_43 : decode cX7_goesOnBy 43 = .ok (.aload_n 0, 1) := zk42 (by decide +kernel)
theorem dX7_goesOnBy_44 : decode cX7_goesOnBy 44 = .ok (.iload_n 2, 1) := zk28 (by decide +kernel)
theorem dX7_goesOnBy_45 : decode cX7_goesOnBy 45 = .ok (.iconst 2, 1) := zk5 (by decide +kernel)
theorem dX7_goesOnBy_46 : decode cX7_goesOnBy 46 = .ok (.aload_n 0, 1) := zk42 (by decide +kernel)
theorem dX7_goesOnBy_47 : decode cX7_goesOnBy 47 = .ok (.iload_n 2, 1) := zk28 (by decide +kernel)
theorem dX7_goesOnBy_48 : decode cX7_goesOnBy 48 = .ok (.iconst 2, 1) := zk5 (by decide +kernel)
theorem dX7_goesOnBy_49 : decode cX7_goesOnBy 49 = .ok (.invokevirtual 85, 3) := zk182 0 85 (by decide +kernel)
theorem dX7_goesOnBy_52 : decode cX7_goesOnBy 52 = .ok (.iload_n 3, 1) := zk29 (by decide +kernel)
theorem dX7_goesOnBy_53 : decode cX7_goesOnBy 53 = .ok (.isub, 1) := zk100 (by decide +kernel)
theorem dX7_goesOnBy_54 : decode cX7_goesOnBy 54 = .ok (.invokevirtual 70, 3) := zk182 0 70 (by decide +kernel)
theorem dX7_goesOnBy_57 : decode cX7_goesOnBy 57 = .ok (.aload_n 0, 1) := zk42 (by decide +kernel)
theorem dX7_goesOnBy_58 : decode cX7_goesOnBy 58 = .ok (.getfield 7, 3) := zk180 0 7 (by decide +kernel)
theorem dX7_goesOnBy_61 : decode cX7_goesOnBy 61 = .ok (.iconst 3, 1) := zk6 (by decide +kernel)
theorem dX7_goesOnBy_62 : decode cX7_goesOnBy 62 = .ok (.dup2, 1) := zk92 (by decide +kernel)
theorem dX7_goesOnBy_63 : decode cX7_goesOnBy 63 = .ok (.iaload, 1) := zk46 (by decide +kernel)
theorem dX7_goesOnBy_64 : decode cX7_goesOnBy 64 = .ok (.aload_n 0, 1) := zk42 (by decide +kernel)
theorem dX7_goesOnBy_65 : decode cX7_goesOnBy 65 = .ok (.iload_n 2, 1) := zk28 (by decide +kernel)
theorem dX7_goesOnBy_66 : decode cX7_goesOnBy 66 = .ok (.invokevirtual 109, 3) := zk182 0 109 (by decide +kernel)
theorem dX7_goesOnBy_69 : decode cX7_goesOnBy 69 = .ok (.ifCond .eq 12, 3) := zk153 0 12 rfl (by decide +kernel)
theorem dX7_goesOnBy_72 : decode cX7_goesOnBy 72 = .ok (.aload_n 0, 1) := zk42 (by decide +kernel)
theorem dX7_goesOnBy_73 : decode cX7_goesOnBy 73 = .ok (.iload_n 2, 1) := zk28 (by decide +kernel)
theorem dX7_goesOnBy_74 : decode cX7_goesOnBy 74 = .ok (.iconst 3, 1) := zk6 (by decide +kernel)
theorem dX7_goesOnBy_75 : decode cX7_goesOnBy 75 = .ok (.invokevirtual 85, 3) := zk182 0 85 (by decide +kernel)
theorem dX7_goesOnBy_78 : decode cX7_goesOnBy 78 = .ok (.goto 4, 3) := zk167 0 4 rfl (by decide +kernel)
theorem dX7_goesOnBy_81 : decode cX7_goesOnBy 81 = .ok (.iconst 0, 1) := zk3 (by decide +kernel)
theorem dX7_goesOnBy_82 : decode cX7_goesOnBy 82 = .ok (.iadd, 1) := zk96 (by decide +kernel)
theorem dX7_goesOnBy_83 : decode cX7_goesOnBy 83 = .ok (.iastore, 1) := zk79 (by decide +kernel)
theorem dX7_goesOnBy_84 : decode cX7_goesOnBy 84 = .ok (.iinc 2 1, 3) := by decide +kernel
theorem dX7_goesOnBy_87 : decode cX7_goesOnBy 87 = .ok (.goto (-70), 3) := zk167 255 186 rfl (by decide +kernel)
theorem dX7_goesOnBy_90 : decode cX7_goesOnBy 90 = .ok (.aload_n 0, 1) := zk42 (by decide +kernel)
theorem dX7_goesOnBy_91 : decode cX7_goesOnBy 91 = .ok (.invokevirtual 154, 3) := zk182 0 154 (by decide +kernel)
theorem dX7_goesOnBy_94 : decode cX7_goesOnBy 94 = .ok (.bipush 100, 2) := zk16 100 rfl (by decide +kernel)
theorem dX7_goesOnBy_96 : decode cX7_goesOnBy 96 = .ok (.irem, 1) := zk112 (by decide +kernel)
theorem dX7_goesOnBy_97 : decode cX7_goesOnBy 97 = .ok (.aload_n 0, 1) := zk42 (by decide +kernel)
theorem dX7_goesOnBy_98 : decode cX7_goesOnBy 98 = .ok (.getfield 7, 3) := zk180 0 7 (by decide +kernel)
theorem dX7_goesOnBy_101 : decode cX7_goesOnBy 101 = .ok (.bipush 9, 2) := zk16 9 rfl (by decide +kernel)
theorem dX7_goesOnBy_103 : decode cX7_goesOnBy 103 = .ok (.iaload, 1) := zk46 (by decide +kernel)
theorem dX7_goesOnBy_104 : decode cX7_goesOnBy 104 = .ok (.if_icmp .ge 45, 3) := zk162 0 45 rfl (by decide +kernel)
theorem dX7_goesOnBy_107 : decode cX7_goesOnBy 107 = .ok (.aload_n 0, 1) := zk42 (by decide +kernel)
theorem dX7_goesOnBy_108 : decode cX7_goesOnBy 108 = .ok (.invokevirtual 154, 3) := zk182 0 154 (by decide +kernel)
theorem dX7_goesOnBy_111 : decode cX7_goesOnBy 111 = .ok (.iconst 3, 1) := zk6 (by decide +kernel)
theorem dX7_goesOnBy_112 : decode cX7_goesOnBy 112 = .ok (.irem, 1) := zk112 (by decide +kernel)
theorem dX7_goesOnBy_113 : decode cX7_goesOnBy 113 = .ok (.iconst 1, 1) := zk4 (by decide +kernel)
theorem dX7_goesOnBy_114 : decode cX7_goesOnBy 114 = .ok (.isub, 1) := zk100 (by decide +kernel)
theorem dX7_goesOnBy_115 : decode cX7_goesOnBy 115 = .ok (.istore_n 2, 1) := zk61 (by decide +kernel)
theorem dX7_goesOnBy_116 : decode cX7_goesOnBy 116 = .ok (.aload_n 0, 1) := zk42 (by decide +kernel)
theorem dX7_goesOnBy_117 : decode cX7_goesOnBy 117 = .ok (.getfield 7, 3) := zk180 0 7 (by decide +kernel)
theorem dX7_goesOnBy_120 : decode cX7_goesOnBy 120 = .ok (.bipush 7, 2) := zk16 7 rfl (by decide +kernel)
theorem dX7_goesOnBy_122 : decode cX7_goesOnBy 122 = .ok (.dup2, 1) := zk92 (by decide +kernel)
theorem dX7_goesOnBy_123 : decode cX7_goesOnBy 123 = .ok (.iaload, 1) := zk46 (by decide +kernel)
theorem dX7_goesOnBy_124 : decode cX7_goesOnBy 124 = .ok (.iload_n 2, 1) := zk28 (by decide +kernel)
theorem dX7_goesOnBy_125 : decode cX7_goesOnBy 125 = .ok (.iadd, 1) := zk96 (by decide +kernel)
theorem dX7_goesOnBy_126 : decode cX7_goesOnBy 126 = .ok (.iastore, 1) := zk79 (by decide +kernel)
theorem dX7_goesOnBy_127 : decode cX7_goesOnBy 127 = .ok (.aload_n 0, 1) := zk42 (by decide +kernel)
theorem dX7_goesOnBy_128 : decode cX7_goesOnBy 128 = .ok (.invokevirtual 149, 3) := zk182 0 149 (by decide +kernel)
theorem dX7_goesOnBy_131 : decode cX7_goesOnBy 131 = .ok (.aload_n 0, 1) := zk42 (by decide +kernel)
theorem dX7_goesOnBy_132 : decode cX7_goesOnBy 132 = .ok (.getfield 7, 3) := zk180 0 7 (by decide +kernel)
theorem dX7_goesOnBy_135 : decode cX7_goesOnBy 135 = .ok (.iconst 5, 1) := zk8 (by decide +kernel)
theorem dX7_goesOnBy_136 : decode cX7_goesOnBy 136 = .ok (.dup2, 1) := zk92 (by decide +kernel)
theorem dX7_goesOnBy_137 : decode cX7_goesOnBy 137 = .ok (.iaload, 1) := zk46 (by decide +kernel)
theorem dX7_goesOnBy_138 : decode cX7_goesOnBy 138 = .ok (.iload_n 2, 1) := zk28 (by decide +kernel)
theorem dX7_goesOnBy_139 : decode cX7_goesOnBy 139 = .ok (.ifCond .ne 7, 3) := zk154 0 7 rfl (by decide +kernel)
theorem dX7_goesOnBy_142 : decode cX7_goesOnBy 142 = .ok (.iconst 0, 1) := zk3 (by decide +kernel)
theorem dX7_goesOnBy_143 : decode cX7_goesOnBy 143 = .ok (.goto 4, 3) := zk167 0 4 rfl (by decide +kernel)
theorem dX7_goesOnBy_146 : decode cX7_goesOnBy 146 = .ok (.iconst 1, 1) := zk4 (by decide +kernel)
theorem dX7_goesOnBy_147 : decode cX7_goesOnBy 147 = .ok (.iadd, 1) := zk96 (by decide +kernel)
theorem dX7_goesOnBy_148 : decode cX7_goesOnBy 148 = .ok (.iastore, 1) := zk79 (by decide +kernel)
theorem dX7_goesOnBy_149 : decode cX7_goesOnBy 149 = .ok (.aload_n 0, 1) := zk42 (by decide +kernel)
theorem dX7_goesOnBy_150 : decode cX7_goesOnBy 150 = .ok (.getfield 7, 3) := zk180 0 7 (by decide +kernel)
theorem dX7_goesOnBy_153 : decode cX7_goesOnBy 153 = .ok (.iconst 2, 1) := zk5 (by decide +kernel)
theorem dX7_goesOnBy_154 : decode cX7_goesOnBy 154 = .ok (.dup2, 1) := zk92 (by decide +kernel)
theorem dX7_goesOnBy_155 : decode cX7_goesOnBy 155 = .ok (.iaload, 1) := zk46 (by decide +kernel)
theorem dX7_goesOnBy_156 : decode cX7_goesOnBy 156 = .ok (.iconst 1, 1) := zk4 (by decide +kernel)
theorem dX7_goesOnBy_157 : decode cX7_goesOnBy 157 = .ok (.iadd, 1) := zk96 (by decide +kernel)
theorem dX7_goesOnBy_158 : decode cX7_goesOnBy 158 = .ok (.iastore, 1) := zk79 (by decide +kernel)
theorem dX7_goesOnBy_159 : decode cX7_goesOnBy 159 = .ok (.return_, 1) := zk177 (by decide +kernel)
set_option maxRecDepth 20000 in
theorem gw_wsX7_hauls : wsX7_hauls.all goodWord = true := by decide +kernel
def bs_wsX7_goesOn : List (List Cond) := [[.code yX7_goesOn cX7_goesOn 1 none], wsX7_goesOn_r1, wsX7_goesOn_r2, wsX7_goesOn_r3, wsX7_goesOn_r4, wsX70]
theorem bse_wsX7_goesOn : wsX7_goesOn = bs_wsX7_goesOn.flatten := by
  unfold wsX7_goesOn bs_wsX7_goesOn
  simp only [List.flatten_cons, List.flatten_nil, List.append_nil, List.append_assoc, List.cons_append, List.nil_append]
set_option maxRecDepth 20000 in
theorem ggX7_goesOn_X7_hauls : GoodIn wsX7_goesOn wsX7_hauls := goodIn_pc bs_wsX7_goesOn bse_wsX7_goesOn _ [(1, [4, 5, 6, 7, 8, 3, 9, 10, 11, 12, 13, 14, 15, 16, 17, 18, 19, 20, 21, 22, 23]), (2, [0, 1, 2, 3, 4, 5, 6, 7, 8, 9, 10, 11, 12, 13, 14, 15, 16, 17, 18, 19, 20, 21, 22, 23]), (3, [0, 1, 2, 3, 4, 5, 6, 7, 8, 9, 10, 11, 12, 13, 14, 15, 16, 17, 18, 19]), (5, [0, 1, 2, 3, 4, 5, 6, 7, 8, 9, 10, 11, 12, 13, 14, 15, 16, 17, 18, 19, 20, 21, 22, 23, 24, 25, 26, 27, 28, 29, 30])] rfl gw_wsX7_hauls
set_option maxRecDepth 20000 in
theorem gX7_goesOn_X7_hauls : GoodIn wsX7_goesOn (wsV RX7 163 RX7 yX7_hauls wsX7_hauls) := goodIn_app (goodIn_pc bs_wsX7_goesOn bse_wsX7_goesOn _ [(1, [0, 1, 2, 3])] rfl (by decide +kernel)) ggX7_goesOn_X7_hauls
set_option maxRecDepth 20000 in
theorem gw_wsX7_goesOnBy : wsX7_goesOnBy.all goodWord = true := by decide +kernel
set_option maxRecDepth 20000 in
theorem ggX7_goesOn_X7_goesOnBy : GoodIn wsX7_goesOn wsX7_goesOnBy := goodIn_pc bs_wsX7_goesOn bse_wsX7_goesOn _ [(3, [23]), (1, [5, 10, 11, 12, 3, 13, 14, 15, 16]), (2, [12, 13, 14, 15]), (1, [21, 22, 23]), (2, [0, 1, 2, 3, 4, 5, 6, 7, 8, 9, 10, 11, 16, 17, 18, 19, 20, 21, 22, 23]), (3, [0, 1, 2, 3, 4, 5, 6, 7, 8, 9, 10, 11, 12, 13, 14, 15, 16, 17, 18, 19]), (4, [0, 1, 2, 3, 4, 5, 6, 7, 8]), (5, [0, 1, 2, 3, 4, 5, 6, 7, 8, 9, 10, 11, 12, 13, 14, 15, 16, 17, 18, 19, 20, 21, 22, 23, 24, 25, 26, 27, 28, 29, 30])] rfl gw_wsX7_goesOnBy
set_option maxRecDepth 20000 in
theorem gX7_goesOn_X7_goesOnBy : GoodIn wsX7_goesOn (wsV RX7 166 RX7 yX7_goesOnBy wsX7_goesOnBy) := goodIn_app (goodIn_pc bs_wsX7_goesOn bse_wsX7_goesOn _ [(3, [20, 21, 22]), (1, [3])] rfl (by decide +kernel)) ggX7_goesOn_X7_goesOnBy
theorem dX7_goesOn_0 : decode cX7_goesOn 0 = .ok (.aload_n 0, 1) := zk42 (by decide +kernel)
theorem dX7_goesOn_1 : decode cX7_goesOn 1 = .ok (.aload_n 0, 1) := zk42 (by decide +kernel)
theorem dX7_goesOn_2 : decode cX7_goesOn 2 = .ok (.invokevirtual 163, 3) := zk182 0 163 (by decide +kernel)
theorem dX7_goesOn_5 : decode cX7_goesOn 5 = .ok (.invokevirtual 166, 3) := zk182 0 166 (by decide +kernel)
theorem dX7_goesOn_8 : decode cX7_goesOn 8 = .ok (.return_, 1) := zk177 (by decide +kernel)
theorem dX7_laysBy_0 : decode cX7_laysBy 0 = .ok (.iconst 0, 1) := zk3 (by decide +kernel)
theorem dX7_laysBy_1 : decode cX7_laysBy 1 = .ok (.istore_n 1, 1) := zk60 (by decide +kernel)
theorem dX7_laysBy_2 : decode cX7_laysBy 2 = .ok (.iload_n 1, 1) := zk27 (by decide +kernel)
theorem dX7_laysBy_3 : decode cX7_laysBy 3 = .ok (.bipush 47, 2) := zk16 47 rfl (by decide +kernel)
theorem dX7_laysBy_5 : decode cX7_laysBy 5 = .ok (.if_icmp .ge 21, 3) := zk162 0 21 rfl (by decide +kernel)
theorem dX7_laysBy_8 : decode cX7_laysBy 8 = .ok (.aload_n 0, 1) := zk42 (by decide +kernel)
theorem dX7_laysBy_9 : decode cX7_laysBy 9 = .ok (.getfield 43, 3) := zk180 0 43 (by decide +kernel)
theorem dX7_laysBy_12 : decode cX7_laysBy 12 = .ok (.iload_n 1, 1) := zk27 (by decide +kernel)
theorem dX7_laysBy_13 : decode cX7_laysBy 13 = .ok (.aload_n 0, 1) := zk42 (by decide +kernel)
theorem dX7_laysBy_14 : decode cX7_laysBy 14 = .ok (.getfield 7, 3) := zk180 0 7 (by decide +kernel)
theorem dX7_laysBy_17 : decode cX7_laysBy 17 = .ok (.iload_n 1, 1) := zk27 (by decide +kernel)
theorem dX7_laysBy_18 : decode cX7_laysBy 18 = .ok (.iaload, 1) := zk46 (by decide +kernel)
theorem dX7_laysBy_19 : decode cX7_laysBy 19 = .ok (.iastore, 1) := zk79 (by decide +kernel)
theorem dX7_laysBy_20 : decode cX7_laysBy 20 = .ok (.iinc 1 1, 3) := by decide +kernel
theorem dX7_laysBy_23 : decode cX7_laysBy 23 = .ok (.goto (-21), 3) := zk167 255 235 rfl (by decide +kernel)
theorem dX7_laysBy_26 : decode cX7_laysBy 26 = .ok (.return_, 1) := zk177 (by decide +kernel)
set_option maxRecDepth 20000 in
theorem gw_wsX7_textAt : wsX7_textAt.all goodWord = true := by decide +kernel
set_option maxRecDepth 20000 in
theorem ggX7_counts_X7_textAt : GoodIn wsX7_counts wsX7_textAt := goodIn_r _ [6] rfl gw_wsX7_textAt
set_option maxRecDepth 20000 in
theorem gX7_counts_X7_textAt : GoodIn wsX7_counts (wsV RX7 271 RX7 yX7_textAt wsX7_textAt) := goodIn_app (goodIn_r _ [2, 3, 4, 5] rfl (by decide +kernel)) ggX7_counts_X7_textAt
theorem dX7_counts_0 : decode cX7_counts 0 = .ok (.iconst (-1), 1) := zk2 (by decide +kernel)
theorem dX7_counts_1 : decode cX7_counts 1 = .ok (.istore_n 2, 1) := zk61 (by decide +kernel)
theorem dX7_counts_2 : decode cX7_counts 2 = .ok (.iconst 0, 1) := zk3 (by decide +kernel)
theorem dX7_counts_3 : decode cX7_counts 3 = .ok (.istore_n 3, 1) := zk62 (by decide +kernel)
theorem dX7_counts_4 : decode cX7_counts 4 = .ok (.iload_n 3, 1) := zk29 (by decide +kernel)
theorem dX7_counts_5 : decode cX7_counts 5 = .ok (.aload_n 0, 1) := zk42 (by decide +kernel)
theorem dX7_counts_6 : decode cX7_counts 6 = .ok (.getfield 7, 3) := zk180 0 7 (by decide +kernel)
theorem dX7_counts_9 : decode cX7_counts 9 = .ok (.iconst 1, 1) := zk4 (by decide +kernel)
theorem dX7_counts_10 : decode cX7_counts 10 = .ok (.iaload, 1) := zk46 (by decide +kernel)
theorem dX7_counts_11 : decode cX7_counts 11 = .ok (.if_icmp .ge 29, 3) := zk162 0 29 rfl (by decide +kernel)
theorem dX7_counts_14 : decode cX7_counts 14 = .ok (.aload_n 0, 1) := zk42 (by decide +kernel)
theorem dX7_counts_15 : decode cX7_counts 15 = .ok (.getfield 7, 3) := zk180 0 7 (by decide +kernel)
theorem dX7_counts_18 : decode cX7_counts 18 = .ok (.aload_n 0, 1) := zk42 (by decide +kernel)
theorem dX7_counts_19 : decode cX7_counts 19 = .ok (.iload_n 3, 1) := zk29 (by decide +kernel)
theorem dX7_counts_20 : decode cX7_counts 20 = .ok (.invokevirtual 271, 3) := zk182 1 15 (by decide +kernel)
theorem dX7_counts_23 : decode cX7_counts 23 = .ok (.iaload, 1) := zk46 (by decide +kernel)
theorem dX7_counts_24 : decode cX7_counts 24 = .ok (.iload_n 1, 1) := zk27 (by decide +kernel)
theorem dX7_counts_25 : decode cX7_counts 25 = .ok (.if_icmp .ne 7, 3) := zk160 0 7 rfl (by decide +kernel)
theorem dX7_counts_28 : decode cX7_counts 28 = .ok (.iload_n 3, 1) := zk29 (by decide +kernel)
theorem dX7_counts_29 : decode cX7_counts 29 = .ok (.goto 4, 3) := zk167 0 4 rfl (by decide +kernel)
theorem dX7_counts_32 : decode cX7_counts 32 = .ok (.iload_n 2, 1) := zk28 (by decide +kernel)
theorem dX7_counts_33 : decode cX7_counts 33 = .ok (.istore_n 2, 1) := zk61 (by decide +kernel)
theorem dX7_counts_34 : decode cX7_counts 34 = .ok (.iinc 3 1, 3) := by decide +kernel
theorem dX7_counts_37 : decode cX7_counts 37 = .ok (.goto (-33), 3) := zk167 255 223 rfl (by decide +kernel)
theorem dX7_counts_40 : decode cX7_counts 40 = .ok (.iload_n 2, 1) := zk28 (by decide +kernel)
theorem dX7_counts_41 : decode cX7_counts 41 = .ok (.ireturn, 1) := zk172 (by decide +kernel)
theorem dX7_joined_0 : decode cX7_joined 0 = .ok (.iload_n 0, 1) := zk26 (by decide +kernel)
theorem dX7_joined_1 : decode cX7_joined 1 = .ok (.tableswitch 196 38 62 #[182, 196, 196, 196, 123, 115, 196, 119, 196, 127, 196, 196, 196, 196, 196, 196, 196, 196, 196, 196, 196, 196, 149, 171, 160], 115) := by decide +kernel
theorem dX7_joined_116 : decode cX7_joined 116 = .ok (.iload_n 1, 1) := zk27 (by decide +kernel)
theorem dX7_joined_117 : decode cX7_joined 117 = .ok (.iload_n 2, 1) := zk28 (by decide +kernel)
theorem dX7_joined_118 : decode cX7_joined 118 = .ok (.iadd, 1) := zk96 (by decide +kernel)
theorem dX7_joined_119 : decode cX7_joined 119 = .ok (.ireturn, 1) := zk172 (by decide +kernel)
theorem dX7_joined_120 : decode cX7_joined 120 = .ok (.iload_n 1, 1) := zk27 (by decide +kernel)
theorem dX7_joined_121 : decode cX7_joined 121 = .ok (.iload_n 2, 1) := zk28 (by decide +kernel)
theorem dX7_joined_122 : decode cX7_joined 122 = .ok (.isub, 1) := zk100 (by decide +kernel)
theorem dX7_joined_123 : decode cX7_joined 123 = .ok (.ireturn, 1) := zk172 (by decide +kernel)
theorem dX7_joined_124 : decode cX7_joined 124 = .ok (.iload_n 1, 1) := zk27 (by decide +kernel)
theorem dX7_joined_125 : decode cX7_joined 125 = .ok (.iload_n 2, 1) := zk28 (by decide +kernel)
theorem dX7_joined_126 : decode cX7_joined 126 = .ok (.imul, 1) := zk104 (by decide +kernel)
theorem dX7_joined_127 : decode cX7_joined 127 = .ok (.ireturn, 1) := zk172 (by decide +kernel)
theorem dX7_joined_128 : decode cX7_joined 128 = .ok (.iload_n 2, 1) := zk28 (by decide +kernel)
theorem dX7_joined_129 : decode cX7_joined 129 = .ok (.ifCond .ne 7, 3) := zk154 0 7 rfl (by decide +kernel)
theorem dX7_joined_132 : decode cX7_joined 132 = .ok (.iconst 0, 1) := zk3 (by decide +kernel)
theorem dX7_joined_133 : decode cX7_joined 133 = .ok (.goto 16, 3) := zk167 0 16 rfl (by decide +kernel)
theorem dX7_joined_136 : decode cX7_joined 136 = .ok (.iload_n 2, 1) := zk28 (by decide +kernel)
theorem dX7_joined_137 : decode cX7_joined 137 = .ok (.iconst (-1), 1) := zk2 (by decide +kernel)
theorem dX7_joined_138 : decode cX7_joined 138 = .ok (.if_icmp .ne 8, 3) := zk160 0 8 rfl (by decide +kernel)
theorem dX7_joined_141 : decode cX7_joined 141 = .ok (.iload_n 1, 1) := zk27 (by decide +kernel)
theorem dX7_joined_142 : decode cX7_joined 142 = .ok (.ineg, 1) := zk116 (by decide +kernel)
theorem dX7_joined_143 : decode cX7_joined 143 = .ok (.goto 6, 3) := zk167 0 6 rfl (by decide +kernel)
theorem dX7_joined_146 : decode cX7_joined 146 = .ok (.iload_n 1, 1) := zk27 (by decide +kernel)
theorem dX7_joined_147 : decode cX7_joined 147 = .ok (.iload_n 2, 1) := zk28 (by decide +kernel)
theorem dX7_joined_148 : decode cX7_joined 148 = .ok (.idiv, 1) := zk108 (by decide +kernel)
theorem dX7_joined_149 : decode cX7_joined 149 = .ok (.ireturn, 1) := zk172 (by decide +kernel)
theorem dX7_joined_150 : decode cX7_joined 150 = .ok (.iload_n 1, 1) := zk27 (by decide +kernel)
theorem dX7_joined_151 : decode cX7_joined 151 = .ok (.iload_n 2, 1) := zk28 (by decide +kernel)
theorem dX7_joined_152 : decode cX7_joined 152 = .ok (.if_icmp .ge 7, 3) := zk162 0 7 rfl (by decide +kernel)
theorem dX7_joined_155 : decode cX7_joined 155 = .ok (.iconst 1, 1) := zk4 (by decide +kernel)
theorem dX7_joined_156 : decode cX7_joined 156 = .ok (.goto 4, 3) := zk167 0 4 rfl (by decide +kernel)
theorem dX7_joined_159 : decode cX7_joined 159 = .ok (.iconst 0, 1) := zk3 (by decide +kernel)
theorem dX7_joined_160 : decode cX7_joined 160 = .ok (.ireturn, 1) := zk172 (by decide +kernel)
theorem dX7_joined_161 : decode cX7_joined 161 = .ok (.iload_n 1, 1) := zk27 (by decide +kernel)
theorem dX7_joined_162 : decode cX7_joined 162 = .ok (.iload_n 2, 1) := zk28 (by decide +kernel)
theorem dX7_joined_163 : decode cX7_joined 163 = .ok (.if_icmp .le 7, 3) := zk164 0 7 rfl (by decide +kernel)
theorem dX7_joined_166 : decode cX7_joined 166 = .ok (.iconst 1, 1) := zk4 (by decide +kernel)
theorem dX7_joined_167 : decode cX7_joined 167 = .ok (.goto 4, 3) := zk167 0 4 rfl (by decide +kernel)
theorem dX7_joined_170 : decode cX7_joined 170 = .ok (.iconst 0, 1) := zk3 (by decide +kernel)
theorem dX7_joined_171 : decode cX7_joined 171 = .ok (.ireturn, 1) := zk172 (by decide +kernel)
theorem dX7_joined_172 : decode cX7_joined 172 = .ok (.iload_n 1, 1) := zk27 (by decide +kernel)
theorem dX7_joined_173 : decode cX7_joined 173 = .ok (.iload_n 2, 1) := zk28 (by decide +kernel)
theorem dX7_joined_174 : decode cX7_joined 174 = .ok (.if_icmp .ne 7, 3) := zk160 0 7 rfl (by decide +kernel)
theorem dX7_joined_177 : decode cX7_joined 177 = .ok (.iconst 1, 1) := zk4 (by decide +kernel)
theorem dX7_joined_178 : decode cX7_joined 178 = .ok (.goto 4, 3) := zk167 0 4 rfl (by decide +kernel)
theorem dX7_joined_181 : decode cX7_joined 181 = .ok (.iconst 0, 1) := zk3 (by decide +kernel)
theorem dX7_joined_182 : decode cX7_joined 182 = .ok (.ireturn, 1) := zk172 (by decide +kernel)
theorem dX7_joined_183 : decode cX7_joined 183 = .ok (.iload_n 1, 1) := zk27 (by decide +kernel)
theorem dX7_joined_184 : decode cX7_joined 184 = .ok (.ifCond .eq 11, 3) := zk153 0 11 rfl (by decide +kernel)
theorem dX7_joined_187 : decode cX7_joined 187 = .ok (.iload_n 2, 1) := zk28 (by decide +kernel)
theorem dX7_joined_188 : decode cX7_joined 188 = .ok (.ifCond .eq 7, 3) := zk153 0 7 rfl (by decide +kernel)
theorem dX7_joined_191 : decode cX7_joined 191 = .ok (.iconst 1, 1) := zk4 (by decide +kernel)
theorem dX7_joined_192 : decode cX7_joined 192 = .ok (.goto 4, 3) := zk167 0 4 rfl (by decide +kernel)
theorem dX7_joined_195 : decode cX7_joined 195 = .ok (.iconst 0, 1) := zk3 (by decide +kernel)
theorem dX7_joined_196 : decode cX7_joined 196 = .ok (.ireturn, 1) := zk172 (by decide +kernel)
theorem dX7_joined_197 : decode cX7_joined 197 = .ok (.iload_n 1, 1) := zk27 (by decide +kernel)
theorem dX7_joined_198 : decode cX7_joined 198 = .ok (.ifCond .ne 7, 3) := zk154 0 7 rfl (by decide +kernel)
theorem dX7_joined_201 : decode cX7_joined 201 = .ok (.iload_n 2, 1) := zk28 (by decide +kernel)
theorem dX7_joined_202 : decode cX7_joined 202 = .ok (.ifCond .eq 7, 3) := zk153 0 7 rfl (by decide +kernel)
theorem dX7_joined_205 : decode cX7_joined 205 = .ok (.iconst 1, 1) := zk4 (by decide +kernel)
theorem dX7_joined_206 : decode cX7_joined 206 = .ok (.goto 4, 3) := zk167 0 4 rfl (by decide +kernel)
theorem dX7_joined_209 : decode cX7_joined 209 = .ok (.iconst 0, 1) := zk3 (by decide +kernel)
theorem dX7_joined_210 : decode cX7_joined 210 = .ok (.ireturn, 1) := zk172 (by decide +kernel)
set_option maxRecDepth 20000 in
theorem ggX7_worked_X7_textAt : GoodIn wsX7_worked wsX7_textAt := goodIn_r _ [8] rfl gw_wsX7_textAt
set_option maxRecDepth 20000 in
theorem gX7_worked_X7_textAt : GoodIn wsX7_worked (wsV RX7 271 RX7 yX7_textAt wsX7_textAt) := goodIn_app (goodIn_r _ [4, 5, 6, 7] rfl (by decide +kernel)) ggX7_worked_X7_textAt
set_option maxRecDepth 20000 in
theorem gw_wsX7_joined : wsX7_joined.all goodWord = true := by decide +kernel
set_option maxRecDepth 20000 in
theorem ggX7_worked_X7_joined : GoodIn wsX7_worked wsX7_joined := goodIn_r _ [11] rfl gw_wsX7_joined
set_option maxRecDepth 20000 in
theorem gX7_worked_X7_joined : GoodIn wsX7_worked (va_wsS RX7 285 yX7_joined wsX7_joined) := goodIn_app (goodIn_r _ [9, 10, 7] rfl (by decide +kernel)) ggX7_worked_X7_joined
theorem dX7_worked_0 : decode cX7_worked 0 = .ok (.iconst 0, 1) := zk3 (by decide +kernel)
theorem dX7_worked_1 : decode cX7_worked 1 = .ok (.istore_n 2, 1) := zk61 (by decide +kernel)
theorem dX7_worked_2 : decode cX7_worked 2 = .ok (.iconst 0, 1) := zk3 (by decide +kernel)
theorem dX7_worked_3 : decode cX7_worked 3 = .ok (.istore_n 3, 1) := zk62 (by decide +kernel)
theorem dX7_worked_4 : decode cX7_worked 4 = .ok (.iload_n 3, 1) := zk29 (by decide +kernel)
theorem dX7_worked_5 : decode cX7_worked 5 = .ok (.aload_n 0, 1) := zk42 (by decide +kernel)
theorem dX7_worked_6 : decode cX7_worked 6 = .ok (.getfield 7, 3) := zk180 0 7 (by decide +kernel)
theorem dX7_worked_9 : decode cX7_worked 9 = .ok (.aload_n 0, 1) := zk42 (by decide +kernel)
theorem dX7_worked_10 : decode cX7_worked 10 = .ok (.iload_n 1, 1) := zk27 (by decide +kernel)
theorem dX7_worked_11 : decode cX7_worked 11 = .ok (.invokevirtual 271, 3) := zk182 1 15 (by decide +kernel)
theorem dX7_worked_14 : decode cX7_worked 14 = .ok (.iconst 2, 1) := zk5 (by decide +kernel)
theorem dX7_worked_15 : decode cX7_worked 15 = .ok (.iadd, 1) := zk96 (by decide +kernel)
theorem dX7_worked_16 : decode cX7_worked 16 = .ok (.iaload, 1) := zk46 (by decide +kernel)
theorem dX7_worked_17 : decode cX7_worked 17 = .ok (.if_icmp .ge 146, 3) := zk162 0 146 rfl (by decide +kernel)
theorem dX7_worked_20 : decode cX7_worked 20 = .ok (.aload_n 0, 1) := zk42 (by decide +kernel)
theorem dX7_worked_21 : decode cX7_worked 21 = .ok (.getfield 7, 3) := zk180 0 7 (by decide +kernel)
theorem dX7_worked_24 : decode cX7_worked 24 = .ok (.aload_n 0, 1) := zk42 (by decide +kernel)
theorem dX7_worked_25 : decode cX7_worked 25 = .ok (.iload_n 1, 1) := zk27 (by decide +kernel)
theorem dX7_worked_26 : decode cX7_worked 26 = .ok (.invokevirtual 271, 3) := zk182 1 15 (by decide +kernel)
theorem dX7_worked_29 : decode cX7_worked 29 = .ok (.iconst 4, 1) := zk7 (by decide +kernel)
theorem dX7_worked_30 : decode cX7_worked 30 = .ok (.iadd, 1) := zk96 (by decide +kernel)
theorem dX7_worked_31 : decode cX7_worked 31 = .ok (.iconst 2, 1) := zk5 (by decide +kernel)
theorem dX7_worked_32 : decode cX7_worked 32 = .ok (.iload_n 3, 1) := zk29 (by decide +kernel)
theorem dX7_worked_33 : decode cX7_worked 33 = .ok (.imul, 1) := zk104 (by decide +kernel)
theorem dX7_worked_34 : decode cX7_worked 34 = .ok (.iadd, 1) := zk96 (by decide +kernel)
theorem dX7_worked_35 : decode cX7_worked 35 = .ok (.iaload, 1) := zk46 (by decide +kernel)
theorem dX7_worked_36 : decode cX7_worked 36 = .ok (.istore 4, 2) := zk54 4 (by decide +kernel)
theorem dX7_worked_38 : decode cX7_worked 38 = .ok (.aload_n 0, 1) := zk42 (by decide +kernel)
theorem dX7_worked_39 : decode cX7_worked 39 = .ok (.getfield 7, 3) := zk180 0 7 (by decide +kernel)
theorem dX7_worked_42 : decode cX7_worked 42 = .ok (.aload_n 0, 1) := zk42 (by decide +kernel)
theorem dX7_worked_43 : decode cX7_worked 43 = .ok (.iload_n 1, 1) := zk27 (by decide +kernel)
theorem dX7_worked_44 : decode cX7_worked 44 = .ok (.invokevirtual 271, 3) := zk182 1 15 (by decide +kernel)
theorem dX7_worked_47 : decode cX7_worked 47 = .ok (.iconst 4, 1) := zk7 (by decide +kernel)
theorem dX7_worked_48 : decode cX7_worked 48 = .ok (.iadd, 1) := zk96 (by decide +kernel)
theorem dX7_worked_49 : decode cX7_worked 49 = .ok (.iconst 2, 1) := zk5 (by decide +kernel)
theorem dX7_worked_50 : decode cX7_worked 50 = .ok (.iload_n 3, 1) := zk29 (by decide +kernel)
theorem dX7_worked_51 : decode cX7_worked 51 = .ok (.imul, 1) := zk104 (by decide +kernel)
theorem dX7_worked_52 : decode cX7_worked 52 = .ok (.iadd, 1) := zk96 (by decide +kernel)
theorem dX7_worked_53 : decode cX7_worked 53 = .ok (.iconst 1, 1) := zk4 (by decide +kernel)
theorem dX7_worked_54 : decode cX7_worked 54 = .ok (.iadd, 1) := zk96 (by decide +kernel)
theorem dX7_worked_55 : decode cX7_worked 55 = .ok (.iaload, 1) := zk46 (by decide +kernel)
theorem dX7_worked_56 : decode cX7_worked 56 = .ok (.istore 5, 2) := zk54 5 (by decide +kernel)
theorem dX7_worked_58 : decode cX7_worked 58 = .ok (.iload 4, 2) := zk21 4 (by decide +kernel)
theorem dX7_worked_60 : decode cX7_worked 60 = .ok (.iconst 2, 1) := zk5 (by decide +kernel)
theorem dX7_worked_61 : decode cX7_worked 61 = .ok (.if_icmp .eq 32, 3) := zk159 0 32 rfl (by decide +kernel)
theorem dX7_worked_64 : decode cX7_worked 64 = .ok (.aload_n 0, 1) := zk42 (by decide +kernel)
theorem dX7_worked_65 : decode cX7_worked 65 = .ok (.getfield 52, 3) := zk180 0 52 (by decide +kernel)
theorem dX7_worked_68 : decode cX7_worked 68 = .ok (.iload_n 2, 1) := zk28 (by decide +kernel)
theorem dX7_worked_69 : decode cX7_worked 69 = .ok (.iload 4, 2) := zk21 4 (by decide +kernel)
theorem dX7_worked_71 : decode cX7_worked 71 = .ok (.ifCond .ne 8, 3) := zk154 0 8 rfl (by decide +kernel)
theorem dX7_worked_74 : decode cX7_worked 74 = .ok (.iload 5, 2) := zk21 5 (by decide +kernel)
theorem dX7_worked_76 : decode cX7_worked 76 = .ok (.goto 10, 3) := zk167 0 10 rfl (by decide +kernel)
theorem dX7_worked_79 : decode cX7_worked 79 = .ok (.aload_n 0, 1) := zk42 (by decide +kernel)
theorem dX7_worked_80 : decode cX7_worked 80 = .ok (.getfield 49, 3) := zk180 0 49 (by decide +kernel)
theorem dX7_worked_83 : decode cX7_worked 83 = .ok (.iload 5, 2) := zk21 5 (by decide +kernel)
theorem dX7_worked_85 : decode cX7_worked 85 = .ok (.iaload, 1) := zk46 (by decide +kernel)
theorem dX7_worked_86 : decode cX7_worked 86 = .ok (.iastore, 1) := zk79 (by decide +kernel)
theorem dX7_worked_87 : decode cX7_worked 87 = .ok (.iinc 2 1, 3) := by decide +kernel
theorem dX7_worked_90 : decode cX7_worked 90 = .ok (.goto 67, 3) := zk167 0 67 rfl (by decide +kernel)
theorem dX7_worked_93 : decode cX7_worked 93 = .ok (.iload 5, 2) := zk21 5 (by decide +kernel)
theorem dX7_worked_95 : decode cX7_worked 95 = .ok (.bipush 33, 2) := zk16 33 rfl (by decide +kernel)
theorem dX7_worked_97 : decode cX7_worked 97 = .ok (.if_icmp .ne 30, 3) := zk160 0 30 rfl (by decide +kernel)
theorem dX7_worked_100 : decode cX7_worked 100 = .ok (.aload_n 0, 1) := zk42 (by decide +kernel)
theorem dX7_worked_101 : decode cX7_worked 101 = .ok (.getfield 52, 3) := zk180 0 52 (by decide +kernel)
theorem dX7_worked_104 : decode cX7_worked 104 = .ok (.iload_n 2, 1) := zk28 (by decide +kernel)
theorem dX7_worked_105 : decode cX7_worked 105 = .ok (.iconst 1, 1) := zk4 (by decide +kernel)
theorem dX7_worked_106 : decode cX7_worked 106 = .ok (.isub, 1) := zk100 (by decide +kernel)
theorem dX7_worked_107 : decode cX7_worked 107 = .ok (.aload_n 0, 1) := zk42 (by decide +kernel)
theorem dX7_worked_108 : decode cX7_worked 108 = .ok (.getfield 52, 3) := zk180 0 52 (by decide +kernel)
theorem dX7_worked_111 : decode cX7_worked 111 = .ok (.iload_n 2, 1) := zk28 (by decide +kernel)
theorem dX7_worked_112 : decode cX7_worked 112 = .ok (.iconst 1, 1) := zk4 (by decide +kernel)
theorem dX7_worked_113 : decode cX7_worked 113 = .ok (.isub, 1) := zk100 (by decide +kernel)
theorem dX7_worked_114 : decode cX7_worked 114 = .ok (.iaload, 1) := zk46 (by decide +kernel)
theorem dX7_worked_115 : decode cX7_worked 115 = .ok (.ifCond .ne 7, 3) := zk154 0 7 rfl (by decide +kernel)
theorem dX7_worked_118 : decode cX7_worked 118 = .ok (.iconst 1, 1) := zk4 (by decide +kernel)
theorem dX7_worked_119 : decode cX7_worked 119 = .ok (.goto 4, 3) := zk167 0 4 rfl (by decide +kernel)
theorem dX7_worked_122 : decode cX7_worked 122 = .ok (.iconst 0, 1) := zk3 (by decide +kernel)
theorem dX7_worked_123 : decode cX7_worked 123 = .ok (.iastore, 1) := zk79 (by decide +kernel)
theorem dX7_worked_124 : decode cX7_worked 124 = .ok (.goto 33, 3) := zk167 0 33 rfl (by decide +kernel)
theorem dX7_worked_127 : decode cX7_worked 127 = .ok (.iinc 2 (-1), 3) := by decide +kernel
theorem dX7_worked_130 : decode cX7_worked 130 = .ok (.aload_n 0, 1) := zk42 (by decide +kernel)
theorem dX7_worked_131 : decode cX7_worked 131 = .ok (.getfield 52, 3) := zk180 0 52 (by decide +kernel)
theorem dX7_worked_134 : decode cX7_worked 134 = .ok (.iload_n 2, 1) := zk28 (by decide +kernel)
theorem dX7_worked_135 : decode cX7_worked 135 = .ok (.iconst 1, 1) := zk4 (by decide +kernel)
theorem dX7_worked_136 : decode cX7_worked 136 = .ok (.isub, 1) := zk100 (by decide +kernel)
theorem dX7_worked_137 : decode cX7_worked 137 = .ok (.iload 5, 2) := zk21 5 (by decide +kernel)
theorem dX7_worked_139 : decode cX7_worked 139 = .ok (.aload_n 0, 1) := zk42 (by decide +kernel)
theorem dX7_worked_140 : decode cX7_worked 140 = .ok (.getfield 52, 3) := zk180 0 52 (by decide +kernel)
theorem dX7_worked_143 : decode cX7_worked 143 = .ok (.iload_n 2, 1) := zk28 (by decide +kernel)
theorem dX7_worked_144 : decode cX7_worked 144 = .ok (.iconst 1, 1) := zk4 (by decide +kernel)
theorem dX7_worked_145 : decode cX7_worked 145 = .ok (.isub, 1) := zk100 (by decide +kernel)
theorem dX7_worked_146 : decode cX7_worked 146 = .ok (.iaload, 1) := zk46 (by decide +kernel)
theorem dX7_worked_147 : decode cX7_worked 147 = .ok (.aload_n 0, 1) := zk42 (by decide +kernel)
theorem dX7_worked_148 : decode cX7_worked 148 = .ok (.getfield 52, 3) := zk180 0 52 (by decide +kernel)
theorem dX7_worked_151 : decode cX7_worked 151 = .ok (.iload_n 2, 1) := zk28 (by decide +kernel)
theorem dX7_worked_152 : decode cX7_worked 152 = .ok (.iaload, 1) := zk46 (by decide +kernel)
theorem dX7_worked_153 : decode cX7_worked 153 = .ok (.invokestatic 285, 3) := zk184 1 29 (by decide +kernel)
theorem dX7_worked_156 : decode cX7_worked 156 = .ok (.iastore, 1) := zk79 (by decide +kernel)
theorem dX7_worked_157 : decode cX7_worked 157 = .ok (.iinc 3 1, 3) := by decide +kernel
theorem dX7_worked_160 : decode cX7_worked 160 = .ok (.goto (-156), 3) := zk167 255 100 rfl (by decide +kernel)
theorem dX7_worked_163 : decode cX7_worked 163 = .ok (.aload_n 0, 1) := zk42 (by decide +kernel)
theorem dX7_worked_164 : decode cX7_worked 164 = .ok (.getfield 52, 3) := zk180 0 52 (by decide +kernel)
theorem dX7_worked_167 : decode cX7_worked 167 = .ok (.iconst 0, 1) := zk3 (by decide +kernel)
theorem dX7_worked_168 : decode cX7_worked 168 = .ok (.iaload, 1) := zk46 (by decide +kernel)
theorem dX7_worked_169 : decode cX7_worked 169 = .ok (.ireturn, 1) := zk172 (by decide +kernel)
set_option maxRecDepth 20000 in
theorem ggX7_isSlot_X7_isIn : GoodIn wsX7_isSlot wsX7_isIn := goodIn_r _ [5] rfl gw_wsX7_isIn
set_option maxRecDepth 20000 in
theorem gX7_isSlot_X7_isIn : GoodIn wsX7_isSlot (va_wsS RX7 65 yX7_isIn wsX7_isIn) := goodIn_app (goodIn_r _ [2, 3, 4] rfl (by decide +kernel)) ggX7_isSlot_X7_isIn
theorem dX7_isSlot_0 : decode cX7_isSlot 0 = .ok (.iload_n 0, 1) := zk26 (by decide +kernel)
theorem dX7_isSlot_1 : decode cX7_isSlot 1 = .ok (.i2l, 1) := zk133 (by decide +kernel)
theorem dX7_isSlot_2 : decode cX7_isSlot 2 = .ok (.lconst 0, 1) := zk9 (by decide +kernel)
theorem dX7_isSlot_3 : decode cX7_isSlot 3 = .ok (.ldc2_w 301, 3) := zk20 1 45 (by decide +kernel)
theorem dX7_isSlot_6 : decode cX7_isSlot 6 = .ok (.invokestatic 65, 3) := zk184 0 65 (by decide +kernel)
theorem dX7_isSlot_9 : decode cX7_isSlot 9 = .ok (.ireturn, 1) := zk172 (by decide +kernel)
set_option maxRecDepth 20000 in
theorem gw_wsX7_isSlot : wsX7_isSlot.all goodWord = true := by decide +kernel
set_option maxRecDepth 20000 in
theorem ggX7_ask_X7_isSlot : GoodIn wsX7_ask wsX7_isSlot := goodIn_r _ [11, 12, 13, 14, 10, 15] rfl gw_wsX7_isSlot
set_option maxRecDepth 20000 in
theorem gX7_ask_X7_isSlot : GoodIn wsX7_ask (va_wsS RX7 303 yX7_isSlot wsX7_isSlot) := goodIn_app (goodIn_r _ [8, 9, 10] rfl (by decide +kernel)) ggX7_ask_X7_isSlot
set_option maxRecDepth 20000 in
theorem ggX7_ask_X7_isIn : GoodIn wsX7_ask wsX7_isIn := goodIn_r _ [15] rfl gw_wsX7_isIn
set_option maxRecDepth 20000 in
theorem gX7_ask_X7_isIn : GoodIn wsX7_ask (va_wsS RX7 65 yX7_isIn wsX7_isIn) := goodIn_app (goodIn_r _ [13, 14, 10] rfl (by decide +kernel)) ggX7_ask_X7_isIn
set_option maxRecDepth 20000 in
theorem ggX7_ask_X7_isOf : GoodIn wsX7_ask wsX7_isOf := goodIn_r _ [18] rfl gw_wsX7_isOf
set_option maxRecDepth 20000 in
theorem gX7_ask_X7_isOf : GoodIn wsX7_ask (va_wsS RX7 125 yX7_isOf wsX7_isOf) := goodIn_app (goodIn_r _ [16, 17, 10] rfl (by decide +kernel)) ggX7_ask_X7_isOf
theorem dX7_ask_0 : decode cX7_ask 0 = .ok (.iload_n 1, 1) := zk27 (by decide +kernel)
theorem dX7_ask_1 : decode cX7_ask 1 = .ok (.invokestatic 303, 3) := zk184 1 47 (by decide +kernel)
theorem dX7_ask_4 : decode cX7_ask 4 = .ok (.ifCond .eq 15, 3) := zk153 0 15 rfl (by decide +kernel)
theorem dX7_ask_7 : decode cX7_ask 7 = .ok (.iload_n 2, 1) := zk28 (by decide +kernel)
theorem dX7_ask_8 : decode cX7_ask 8 = .ok (.i2l, 1) := zk133 (by decide +kernel)
theorem dX7_ask_9 : decode cX7_ask 9 = .ok (.lconst 0, 1) := zk9 (by decide +kernel)
theorem dX7_ask_10 : decode cX7_ask 10 = .ok (.ldc2_w 74, 3) := zk20 0 74 (by decide +kernel)
theorem dX7_ask_13 : decode cX7_ask 13 = .ok (.invokestatic 65, 3) := zk184 0 65 (by decide +kernel)
theorem dX7_ask_16 : decode cX7_ask 16 = .ok (.ifCond .ne 6, 3) := zk154 0 6 rfl (by decide +kernel)
theorem dX7_ask_19 : decode cX7_ask 19 = .ok (.ldc 80, 2) := zk18 80 (by decide +kernel)
theorem dX7_ask_21 : decode cX7_ask 21 = .ok (.ireturn, 1) := zk172 (by decide +kernel)
theorem dX7_ask_22 : decode cX7_ask 22 = .ok (.aload_n 0, 1) := zk42 (by decide +kernel)
theorem dX7_ask_23 : decode cX7_ask 23 = .ok (.getfield 28, 3) := zk180 0 28 (by decide +kernel)
theorem dX7_ask_26 : decode cX7_ask 26 = .ok (.iload_n 1, 1) := zk27 (by decide +kernel)
theorem dX7_ask_27 : decode cX7_ask 27 = .ok (.iaload, 1) := zk46 (by decide +kernel)
theorem dX7_ask_28 : decode cX7_ask 28 = .ok (.ifCond .ne 7, 3) := zk154 0 7 rfl (by decide +kernel)
theorem dX7_ask_31 : decode cX7_ask 31 = .ok (.ldc_w 295, 3) := zk19 1 39 (by decide +kernel)
theorem dX7_ask_34 : decode cX7_ask 34 = .ok (.ireturn, 1) := zk172 (by decide +kernel)
theorem dX7_ask_35 : decode cX7_ask 35 = .ok (.aload_n 0, 1) := zk42 (by decide +kernel)
theorem dX7_ask_36 : decode cX7_ask 36 = .ok (.getfield 28, 3) := zk180 0 28 (by decide +kernel)
theorem dX7_ask_39 : decode cX7_ask 39 = .ok (.iload_n 1, 1) := zk27 (by decide +kernel)
theorem dX7_ask_40 : decode cX7_ask 40 = .ok (.iaload, 1) := zk46 (by decide +kernel)
theorem dX7_ask_41 : decode cX7_ask 41 = .ok (.iconst 1, 1) := zk4 (by decide +kernel)
theorem dX7_ask_42 : decode cX7_ask 42 = .ok (.if_icmp .ne 25, 3) := zk160 0 25 rfl (by decide +kernel)
theorem dX7_ask_45 : decode cX7_ask 45 = .ok (.aload_n 0, 1) := zk42 (by decide +kernel)
theorem dX7_ask_46 : decode cX7_ask 46 = .ok (.getfield 31, 3) := zk180 0 31 (by decide +kernel)
theorem dX7_ask_49 : decode cX7_ask 49 = .ok (.iload_n 1, 1) := zk27 (by decide +kernel)
theorem dX7_ask_50 : decode cX7_ask 50 = .ok (.iaload, 1) := zk46 (by decide +kernel)
theorem dX7_ask_51 : decode cX7_ask 51 = .ok (.iload_n 2, 1) := zk28 (by decide +kernel)
theorem dX7_ask_52 : decode cX7_ask 52 = .ok (.invokestatic 125, 3) := zk184 0 125 (by decide +kernel)
theorem dX7_ask_55 : decode cX7_ask 55 = .ok (.ifCond .eq 12, 3) := zk153 0 12 rfl (by decide +kernel)
theorem dX7_ask_58 : decode cX7_ask 58 = .ok (.aload_n 0, 1) := zk42 (by decide +kernel)
theorem dX7_ask_59 : decode cX7_ask 59 = .ok (.getfield 34, 3) := zk180 0 34 (by decide +kernel)
theorem dX7_ask_62 : decode cX7_ask 62 = .ok (.iload_n 1, 1) := zk27 (by decide +kernel)
theorem dX7_ask_63 : decode cX7_ask 63 = .ok (.iaload, 1) := zk46 (by decide +kernel)
theorem dX7_ask_64 : decode cX7_ask 64 = .ok (.goto 5, 3) := zk167 0 5 rfl (by decide +kernel)
theorem dX7_ask_67 : decode cX7_ask 67 = .ok (.ldc 129, 2) := zk18 129 (by decide +kernel)
theorem dX7_ask_69 : decode cX7_ask 69 = .ok (.ireturn, 1) := zk172 (by decide +kernel)
theorem dX7_setAside_0 : decode cX7_setAside 0 = .ok (.iconst 0, 1) := zk3 (by decide +kernel)
theorem dX7_setAside_1 : decode cX7_setAside 1 = .ok (.istore_n 3, 1) := zk62 (by decide +kernel)
theorem dX7_setAside_2 : decode cX7_setAside 2 = .ok (.iload_n 3, 1) := zk29 (by decide +kernel)
theorem dX7_setAside_3 : decode cX7_setAside 3 = .ok (.sipush 2847, 3) := zk17 11 31 rfl (by decide +kernel)
theorem dX7_setAside_6 : decode cX7_setAside 6 = .ok (.if_icmp .ge 15, 3) := zk162 0 15 rfl (by decide +kernel)
theorem dX7_setAside_9 : decode cX7_setAside 9 = .ok (.aload_n 2, 1) := zk44 (by decide +kernel)
theorem dX7_setAside_10 : decode cX7_setAside 10 = .ok (.iload_n 3, 1) := zk29 (by decide +kernel)
theorem dX7_setAside_11 : decode cX7_setAside 11 = .ok (.aload_n 1, 1) := zk43 (by decide +kernel)
theorem dX7_setAside_12 : decode cX7_setAside 12 = .ok (.iload_n 3, 1) := zk29 (by decide +kernel)
theorem dX7_setAside_13 : decode cX7_setAside 13 = .ok (.iaload, 1) := zk46 (by decide +kernel)
theorem dX7_setAside_14 : decode cX7_setAside 14 = .ok (.iastore, 1) := zk79 (by decide +kernel)
theorem dX7_setAside_15 : decode cX7_setAside 15 = .ok (.iinc 3 1, 3) := by decide +kernel
theorem dX7_setAside_18 : decode cX7_setAside 18 = .ok (.goto (-16), 3) := zk167 255 240 rfl (by decide +kernel)
theorem dX7_setAside_21 : decode cX7_setAside 21 = .ok (.return_, 1) := zk177 (by decide +kernel)
set_option maxRecDepth 20000 in
theorem gw_wsX7_setAside : wsX7_setAside.all goodWord = true := by decide +kernel
set_option maxRecDepth 20000 in
theorem ggX7_back_X7_setAside : GoodIn wsX7_back wsX7_setAside := goodIn_r _ [9] rfl gw_wsX7_setAside
set_option maxRecDepth 20000 in
theorem gX7_back_X7_setAside : GoodIn wsX7_back (wsV RX7 316 RX7 yX7_setAside wsX7_setAside) := goodIn_app (goodIn_r _ [5, 6, 7, 8] rfl (by decide +kernel)) ggX7_back_X7_setAside
theorem dX7_back_0 : decode cX7_back 0 = .ok (.aload_n 0, 1) := zk42 (by decide +kernel)
theorem dX7_back_1 : decode cX7_back 1 = .ok (.getfield 312, 3) := zk180 1 56 (by decide +kernel)
theorem dX7_back_4 : decode cX7_back 4 = .ok (.ifCond .ne 7, 3) := zk154 0 7 rfl (by decide +kernel)
theorem dX7_back_7 : decode cX7_back 7 = .ok (.ldc_w 306, 3) := zk19 1 50 (by decide +kernel)
theorem dX7_back_10 : decode cX7_back 10 = .ok (.ireturn, 1) := zk172 (by decide +kernel)
theorem dX7_back_11 : decode cX7_back 11 = .ok (.aload_n 0, 1) := zk42 (by decide +kernel)
theorem dX7_back_12 : decode cX7_back 12 = .ok (.aload_n 0, 1) := zk42 (by decide +kernel)
theorem dX7_back_13 : decode cX7_back 13 = .ok (.getfield 13, 3) := zk180 0 13 (by decide +kernel)
theorem dX7_back_16 : decode cX7_back 16 = .ok (.aload_n 0, 1) := zk42 (by decide +kernel)
theorem dX7_back_17 : decode cX7_back 17 = .ok (.getfield 7, 3) := zk180 0 7 (by decide +kernel)
theorem dX7_back_20 : decode cX7_back 20 = .ok (.invokevirtual 316, 3) := zk182 1 60 (by decide +kernel)
theorem dX7_back_23 : decode cX7_back 23 = .ok (.aload_n 0, 1) := zk42 (by decide +kernel)
theorem dX7_back_24 : decode cX7_back 24 = .ok (.getfield 7, 3) := zk180 0 7 (by decide +kernel)
theorem dX7_back_27 : decode cX7_back 27 = .ok (.iconst 0, 1) := zk3 (by decide +kernel)
theorem dX7_back_28 : decode cX7_back 28 = .ok (.iaload, 1) := zk46 (by decide +kernel)
theorem dX7_back_29 : decode cX7_back 29 = .ok (.ireturn, 1) := zk172 (by decide +kernel)
